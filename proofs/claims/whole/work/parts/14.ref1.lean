theorem sk_atx (b t h : Nat) : 1520 + (nI b * 24 + nI t) * 32 + nI h = nI (1520 + (b * 24 + t) * 32 + h) := by
  rw [show (24 : Int32) = nI 24 from rfl, show (32 : Int32) = nI 32 from rfl, show (1520 : Int32) = nI 1520 from rfl, pk_mul, nI_add, pk_mul, nI_add, nI_add]
abbrev sk_R0 (hi : Nat → Nat → Int32) (S : sk_S) : Prop := sk_R (hi 21) 0 S
theorem sk_R0_e {hi : Nat → Nat → Int32} {S : sk_S} (hR : sk_R0 hi S) {b t h : Nat} (hb : b < 4) (ht : t < 24) (hh : h < 32) : hi 21 (1520 + (b * 24 + t) * 32 + h) = nI (S.1 b t h) := by
  rw [← hR.1 b hb t ht h hh]
  congr 1
  omega
theorem sk_R0_p {hi : Nat → Nat → Int32} {S : sk_S} (hR : sk_R0 hi S) : hi 21 0 = nI S.2.1.1 ∧ hi 21 1 = nI S.2.1.2.1 ∧ hi 21 2 = nI S.2.1.2.2 := hR.2.1
/-- the row of echoes changes, all before it stays -/
theorem sk_R_e {f f' : Nat → Int32} {off : Nat} {S : sk_S} {e' : Nat → Nat → Nat → Nat} (hn : S.2.2.2.1 ≤ 4) (hR : sk_R f off S) (hs : ∀ j, off ≤ j → j < off + 1520 → f' j = f j) (he : ∀ b, b < 4 → ∀ t, t < 24 → ∀ h, h < 32 → f' (off + 1520 + ((b * 24 + t) * 32 + h)) = nI (e' b t h)) : sk_R f' off (e', S.2) := by
  obtain ⟨r1, r2, r3, r4, r5⟩ := hR
  refine ⟨he, ⟨by rw [hs _ (by omega) (by omega)]; exact r2.1, by rw [hs _ (by omega) (by omega)]; exact r2.2.1, by rw [hs _ (by omega) (by omega)]; exact r2.2.2⟩, fun k hk => ⟨by rw [hs _ (by omega) (by omega)]; exact (r3 k hk).1, by rw [hs _ (by omega) (by omega)]; exact (r3 k hk).2⟩, by rw [hs _ (by omega) (by omega)]; exact r4, fun i hi => ?_⟩
  have hi4 : i < 4 := Nat.lt_of_lt_of_le hi hn
  exact ⟨by rw [hs _ (by omega) (by omega)]; exact (r5 i hi).1, by rw [hs _ (by omega) (by omega)]; exact (r5 i hi).2.1, by rw [hs _ (by omega) (by omega)]; exact (r5 i hi).2.2⟩
/-- a heap of the reference that another method of it has changed: only its own places, and of all no image -/
def sk_FR (hi hi' : Nat → Nat → Int32) : Prop := (∀ a, (a < 20 ∨ 28 ≤ a) → hi' a = hi a) ∧ hi' 22 = hi 22 ∧ ∀ j, 4592 ≤ j → hi' 21 j = hi 21 j
section REF1
variable {Γ : sk_Cx} {Q : Option Value → sk_Hp → Prop} {rr : Nat → Nat → Option Nat} {ex : List (Nat × Nat)} {hi : Nat → Nat → Int32} {S : sk_S}
theorem c_at {b t h : Nat} (q : Q (some (.int (nI (1520 + (b * 24 + t) * 32 + h)))) (sk_h hi rr ex)) : sk_Ct Γ m_X9_at [.int (nI b), .int (nI t), .int (nI h)] (sk_h hi rr ex) Q :=
  sk_Ct.of ok_X9_at.2.2.2 (Nat.le_of_ble_eq_true rfl) (k_X9_at_0 (by rw [sk_atx]; exact q))
theorem c_rBarred {b t : Nat} (hG : sk_G S) (hR : sk_R0 hi S) (hb : b < 4) (ht : t < 24) (q1 : sk_bar S b t = true → Q (some (.int 1)) (sk_h hi rr ex)) (q0 : sk_bar S b t = false → Q (some (.int 0)) (sk_h hi rr ex)) : sk_Ct Γ m_X9_isBarred [.ref 20, .int (nI b), .int (nI t)] (sk_h hi rr ex) Q := by
  obtain ⟨p0, p1, p2⟩ := sk_R0_p hR
  have g1 := hG.2.1.2
  have g2 := hG.2.2.1.2
  refine sk_Ct.of ok_X9_isBarred.2.2.2 (Nat.le_of_ble_eq_true rfl) (k_X9_isBarred_0 ?_)
  have loop : ∀ n h, h + n = 32 → sk_Go Γ (sk_M Γ m_X9_isBarred Q) (0, 0) 5 [some (.ref 20), some (.int (nI b)), some (.int (nI t)), some (.int (nI (sk_cn (S.1 b t) S.2.1.1 h))), some (.int (nI h))] [] (sk_h hi rr ex) := by
    intro n
    induction n with
    | zero =>
      intro h hh
      have e : h = 32 := by omega
      subst e
      have hc := sk_cn_le (S.1 b t) S.2.1.1 32
      refine k_X9_isBarred_5 (fun _ c => ?_) (fun _ c => ?_) (fun c => absurd (nI_le (Nat.le_refl 32) (by decide)) c)
      · rw [p1, nI_ltI (by omega) (by omega)] at c
        exact q0 (by unfold sk_bar; simp; omega)
      · rw [p1, nI_ltI (by omega) (by omega)] at c
        exact q1 (by unfold sk_bar; simp; omega)
    | succ n ih =>
      intro h hh
      have hn : ¬ (32 : Int32) ≤ nI h := nI_ge (b := 32) (by omega) (by decide)
      have he := hG.1 b t h
      refine k_X9_isBarred_5 (fun c => absurd c hn) (fun c => absurd c hn) (fun _ => c_at (k_X9_isBarred_24 (vp_in_nI (by omega) (by decide)) (fun c => ?_) (fun c => ?_)))
      · rw [nI_clamp (by omega), sk_R0_e hR hb ht (by omega), p0, nI_ltI (by omega) (by omega)] at c
        have := ih (h + 1) (by omega)
        rw [sk_cn, if_neg (by omega), Nat.add_zero] at this
        rw [show (0 : Int32) = nI 0 from rfl, nI_add, Nat.add_zero, nI_1]
        exact this
      · rw [nI_clamp (by omega), sk_R0_e hR hb ht (by omega), p0, nI_ltI (by omega) (by omega)] at c
        have := ih (h + 1) (by omega)
        rw [sk_cn, if_pos (by omega)] at this
        rw [nI_1, nI_1]
        exact this
  exact loop 32 0 (by omega)
theorem c_echoOf {b t h : Nat} (hG : sk_G S) (hR : sk_R0 hi S) (hb : b < 4) (ht : t < 2 ^ 31) (hh : h < 32) (q : Q (some (.int (nI (sk_hd S b t h)))) (sk_h hi rr ex)) : sk_Ct Γ m_X9_echoOf [.ref 20, .int (nI b), .int (nI t), .int (nI h)] (sk_h hi rr ex) Q := by
  refine sk_Ct.of ok_X9_echoOf.2.2.2 (Nat.le_of_ble_eq_true rfl) (k_X9_echoOf_0 (fun c => ?_) (fun c => ?_))
  · have h1 : 24 ≤ t := (nI_leI (a := 24) (by decide) ht).mp c
    unfold sk_hd at q
    rw [if_neg (by omega)] at q
    exact q
  · have h1 : t < 24 := Nat.lt_of_not_le (fun z => c ((nI_leI (a := 24) (by decide) ht).mpr z))
    refine c_rBarred hG hR hb h1 (fun p => k_X9_echoOf_12 (fun _ => ?_) (fun c => absurd c sk_n10)) (fun p => k_X9_echoOf_12 (fun c => absurd rfl c) (fun _ => c_at (k_X9_echoOf_25 (vp_in_nI (by omega) (by decide)) ?_)))
    · unfold sk_hd at q
      rw [if_pos h1, if_pos p] at q
      exact q
    · unfold sk_hd at q
      rw [if_pos h1, if_neg (by rw [p]; decide)] at q
      rw [nI_clamp (by omega), sk_R0_e hR hb h1 hh]
      exact q
theorem c_worth {b t h : Nat} (hG : sk_G S) (hR : sk_R0 hi S) (hb : b < 4) (ht : t < 24) (hh : h < 32) (q : Q (some (.int (nI (sk_wo S b t h)))) (sk_h hi rr ex)) : sk_Ct Γ m_X9_worth [.ref 20, .int (nI b), .int (nI t), .int (nI h)] (sk_h hi rr ex) Q := by
  have hs := hG.2.2.2.1
  refine sk_Ct.of ok_X9_worth.2.2.2 (Nat.le_of_ble_eq_true rfl) (k_X9_worth_0 (c_echoOf hG hR hb (by omega) hh (k_X9_worth_7 ?_)))
  rw [(sk_R0_p hR).2.2, nI_add]
  refine c_echoOf hG hR hb (by omega) hh (k_X9_worth_21 ?_)
  rw [nI_add]
  exact q
theorem sk_FR_21 {hi hi' : Nat → Nat → Int32} (h : ∀ a, a ≠ 21 → hi' a = hi a) (h2 : ∀ j, 4592 ≤ j → hi' 21 j = hi 21 j) : sk_FR hi hi' := ⟨fun a ha => h a (by omega), h 22 (by decide), h2⟩
theorem cm_shift {x1 : Int32} (hG : sk_G S) (hR : sk_R0 hi S) (q1 : sk_rg x1 1 8 → ∀ hi', sk_R0 hi' (S.1, (S.2.1.1, S.2.1.2.1, sk_n x1), S.2.2) → sk_FR hi hi' → Q (some (.int 1)) (sk_h hi' rr ex)) (q0 : ¬ sk_rg x1 1 8 → Q (some (.int 0)) (sk_h hi rr ex)) : sk_Ct Γ m_X9_shift [.ref 20, .int x1] (sk_h hi rr ex) Q := by
  refine sk_Ct.of ok_X9_shift.2.2.2 (Nat.le_of_ble_eq_true rfl) (k_X9_shift_0 (c_X9_isIn (l := 1) (u := 8) (by decide) (by decide) (by decide) (by decide) (fun z => k_X9_shift_7 (fun _ => ?_) (fun c => absurd c sk_n10)) (fun z => k_X9_shift_7 (fun c => absurd rfl c) (fun _ => q0 z))))
  obtain ⟨e1, -, -⟩ := sk_rg_n z (by decide)
  refine q1 z _ ?_ (sk_FR_21 (fun a ha => sk_wi_o _ _ _ ha) (fun j hj => sk_wi_ne _ _ (by omega)))
  obtain ⟨r1, r2, r3, r4, r5⟩ := hR
  have hn := hG.2.2.2.2.2.1
  refine ⟨fun b hb t ht h hh => by rw [sk_wi_ne _ _ (by omega)]; exact r1 b hb t ht h hh, ⟨by rw [sk_wi_ne _ _ (by omega)]; exact r2.1, by rw [sk_wi_ne _ _ (by omega)]; exact r2.2.1, (sk_wi_self _ _ _ _).trans e1⟩, fun k hk => ⟨by rw [sk_wi_ne _ _ (by omega)]; exact (r3 k hk).1, by rw [sk_wi_ne _ _ (by omega)]; exact (r3 k hk).2⟩, by rw [sk_wi_ne _ _ (by omega)]; exact r4, fun i hi' => ⟨by rw [sk_wi_ne _ _ (by omega)]; exact (r5 i hi').1, by rw [sk_wi_ne _ _ (by omega)]; exact (r5 i hi').2.1, by rw [sk_wi_ne _ _ (by omega)]; exact (r5 i hi').2.2⟩⟩
theorem cm_noise {x1 x2 : Int32} (hG : sk_G S) (hR : sk_R0 hi S) (q1 : sk_Pnoise x1 x2 → ∀ hi', sk_R0 hi' (S.1, (sk_n x1, sk_n x2, S.2.1.2.2), S.2.2) → sk_FR hi hi' → Q (some (.int 1)) (sk_h hi' rr ex)) (q0 : ¬ sk_Pnoise x1 x2 → Q (some (.int 0)) (sk_h hi rr ex)) : sk_Ct Γ m_X9_noise [.ref 20, .int x1, .int x2] (sk_h hi rr ex) Q := by
  refine sk_Ct.of ok_X9_noise.2.2.2 (Nat.le_of_ble_eq_true rfl) (k_X9_noise_0 (c_X9_isIn (l := 1) (u := 9) (by decide) (by decide) (by decide) (by decide) (fun z => k_X9_noise_7 (fun c => absurd c sk_n10) (fun _ => c_X9_isIn (l := 1) (u := 32) (by decide) (by decide) (by decide) (by decide) (fun z2 => k_X9_noise_17 (fun _ => ?_) (fun c => absurd c sk_n10)) (fun z2 => k_X9_noise_17 (fun c => absurd rfl c) (fun _ => q0 (fun w => z2 w.2))))) (fun z => k_X9_noise_7 (fun _ => q0 (fun w => z w.1)) (fun c => absurd rfl c))))
  obtain ⟨e1, a1, b1⟩ := sk_rg_n z (by decide)
  obtain ⟨e2, a2, b2⟩ := sk_rg_n z2 (by decide)
  refine q1 ⟨z, z2⟩ _ ?_ (sk_FR_21 (fun a ha => by rw [sk_wi_o _ _ _ ha, sk_wi_o _ _ _ ha]) (fun j hj => by rw [sk_wi_ne _ _ (by omega), sk_wi_ne _ _ (by omega)]))
  obtain ⟨r1, r2, r3, r4, r5⟩ := hR
  have hn := hG.2.2.2.2.2.1
  have u2 : ∀ i, 2 ≤ i → sk_wi (sk_wi hi 21 0 x1) 21 1 x2 21 i = hi 21 i := fun i h => by rw [sk_wi_ne _ _ (by omega), sk_wi_ne _ _ (by omega)]
  refine ⟨fun b hb t ht h hh => by rw [u2 _ (by omega)]; exact r1 b hb t ht h hh, ⟨by rw [sk_wi_ne _ _ (by decide), sk_wi_self]; exact e1, (sk_wi_self _ _ _ _).trans e2, by rw [u2 _ (by omega)]; exact r2.2.2⟩, fun k hk => ⟨by rw [u2 _ (by omega)]; exact (r3 k hk).1, by rw [u2 _ (by omega)]; exact (r3 k hk).2⟩, by rw [u2 _ (by omega)]; exact r4, fun i hi' => ⟨by rw [u2 _ (by omega)]; exact (r5 i hi').1, by rw [u2 _ (by omega)]; exact (r5 i hi').2.1, by rw [u2 _ (by omega)]; exact (r5 i hi').2.2⟩⟩
theorem cm_echo {x1 x2 x3 x4 : Int32} (hG : sk_G S) (hR : sk_R0 hi S) (q1 : sk_Pecho x1 x2 x3 x4 → ∀ hi', sk_R0 hi' (sk_ue S.1 (sk_n x1) (sk_n x2) (sk_n x3) (sk_n x4), S.2) → sk_FR hi hi' → Q (some (.int 1)) (sk_h hi' rr ex)) (q0 : ¬ sk_Pecho x1 x2 x3 x4 → Q (some (.int 0)) (sk_h hi rr ex)) : sk_Ct Γ m_X9_echo [.ref 20, .int x1, .int x2, .int x3, .int x4] (sk_h hi rr ex) Q := by
  refine sk_Ct.of ok_X9_echo.2.2.2 (Nat.le_of_ble_eq_true rfl) (k_X9_echo_0 (c_X9_isPlace (fun z1 z2 z3 => k_X9_echo_6 (fun c => absurd c sk_n10) (fun _ => c_X9_isIn (l := 0) (u := 9) (by decide) (by decide) (by decide) (by decide) (fun z4 => k_X9_echo_17 (fun _ => ?_) (fun c => absurd c sk_n10)) (fun z4 => k_X9_echo_17 (fun c => absurd rfl c) (fun _ => q0 (fun w => z4 w.2))))) (fun z => k_X9_echo_6 (fun _ => q0 (fun w => z w.1)) (fun c => absurd rfl c))))
  obtain ⟨e1, a1, b1⟩ := sk_rg_n z1 (by decide)
  obtain ⟨e2, a2, b2⟩ := sk_rg_n z2 (by decide)
  obtain ⟨e3, a3, b3⟩ := sk_rg_n z3 (by decide)
  obtain ⟨e4, a4, b4⟩ := sk_rg_n z4 (by decide)
  rw [show ([.int x1, .int x2, .int x3] : List Value) = [.int (nI (sk_n x1)), .int (nI (sk_n x2)), .int (nI (sk_n x3))] by rw [← e1, ← e2, ← e3]]
  refine c_at (k_X9_echo_32 (vp_in_nI (by omega) (by decide)) ?_)
  rw [nI_clamp (by omega)]
  refine q1 ⟨⟨z1, z2, z3⟩, z4⟩ _ (sk_R_e hG.2.2.2.2.2.1 hR (fun j h1 h2 => sk_wi_ne _ _ (by omega)) (fun b hb t ht h hh => ?_)) (sk_FR_21 (fun a ha => sk_wi_o _ _ _ ha) (fun j hj => sk_wi_ne _ _ (by omega)))
  rw [sk_wi_if]
  unfold sk_ue
  by_cases hc : b = sk_n x1 ∧ t = sk_n x2 ∧ h = sk_n x3
  · rw [if_pos (by omega), if_pos hc]
    exact e4
  · rw [if_neg (by omega), if_neg hc]
    exact hR.1 b hb t ht h hh
theorem cm_blank {x1 : Int32} (hG : sk_G S) (hR : sk_R0 hi S) (q1 : sk_rg x1 0 3 → ∀ hi', sk_R0 hi' (sk_u0 S.1 (sk_n x1), S.2) → sk_FR hi hi' → Q (some (.int 1)) (sk_h hi' rr ex)) (q0 : ¬ sk_rg x1 0 3 → Q (some (.int 0)) (sk_h hi rr ex)) : sk_Ct Γ m_X9_blank [.ref 20, .int x1] (sk_h hi rr ex) Q := by
  refine sk_Ct.of ok_X9_blank.2.2.2 (Nat.le_of_ble_eq_true rfl) (k_X9_blank_0 (c_X9_isBoard (fun z => k_X9_blank_4 (fun _ => ?_) (fun c => absurd c sk_n10)) (fun z => k_X9_blank_4 (fun c => absurd rfl c) (fun _ => q0 z))))
  obtain ⟨e1, a1, b1⟩ := sk_rg_n z (by decide)
  generalize sk_n x1 = b at e1 a1 b1 q1
  subst e1
  have loop : ∀ n i (hi1 : Nat → Nat → Int32), i + n = 768 → (∀ a, a ≠ 21 → hi1 a = hi a) → (∀ j, hi1 21 j = if 1520 + b * 768 ≤ j ∧ j < 1520 + b * 768 + i then 0 else hi 21 j) → sk_Go Γ (sk_M Γ m_X9_blank Q) (0, 0) 11 [some (.ref 20), some (.int (nI b)), some (.int (nI i))] [] (sk_h hi1 rr ex) := by
    intro n
    induction n with
    | zero =>
      intro i hi1 hh ho h3
      have e : i = 768 := by omega
      subst e
      refine k_X9_blank_11 (fun _ => ?_) (fun c => absurd (nI_le (Nat.le_refl 768) (by decide)) c)
      refine q1 z _ (sk_R_e hG.2.2.2.2.2.1 hR (fun j h1 h2 => by rw [h3, if_neg (by omega)]) (fun b' hb t ht h hh => ?_)) (sk_FR_21 ho (fun j hj => by rw [h3, if_neg (by omega)]))
      rw [h3]
      unfold sk_u0
      by_cases hc : b' = b
      · rw [if_pos (by omega), if_pos hc]
        rfl
      · rw [if_neg (by omega), if_neg hc]
        exact hR.1 b' hb t ht h hh
    | succ n ih =>
      intro i hi1 hh ho h3
      have hn : ¬ (768 : Int32) ≤ nI i := nI_ge (b := 768) (by omega) (by decide)
      refine k_X9_blank_11 (fun c => absurd c hn) (fun _ => c_at (t := 0) (h := 0) (k_X9_blank_28 (by rw [nI_add]; exact vp_in_nI (by omega) (by decide)) ?_))
      rw [nI_add, nI_clamp (by omega), nI_1]
      refine ih (i + 1) _ (by omega) (fun a ha => by rw [sk_wi_o _ _ _ ha, ho a ha]) (fun j => ?_)
      rw [sk_wi_if]
      by_cases hj : j = 1520 + (b * 24 + 0) * 32 + 0 + i
      · rw [if_pos hj, if_pos (by omega)]
      · rw [if_neg hj, h3]
        by_cases hk : 1520 + b * 768 ≤ j ∧ j < 1520 + b * 768 + i
        · rw [if_pos hk, if_pos (by omega)]
        · rw [if_neg hk, if_neg (by omega)]
  exact loop 768 0 hi (by omega) (fun _ _ => rfl) (fun j => by rw [if_neg (by omega)])
theorem cm_board {x1 x2 x3 x4 : Int32} (hG : sk_G S) (hR : sk_R0 hi S) (q1 : sk_Pboard x1 x2 x3 x4 → ∀ hi', sk_R0 hi' (sk_ub S.1 (sk_n x1) (sk_n x2) (sk_n x3) x4, S.2) → sk_FR hi hi' → Q (some (.int 1)) (sk_h hi' rr ex)) (q0 : ¬ sk_Pboard x1 x2 x3 x4 → Q (some (.int 0)) (sk_h hi rr ex)) : sk_Ct Γ m_X9_board [.ref 20, .int x1, .int x2, .int x3, .int x4] (sk_h hi rr ex) Q := by
  refine sk_Ct.of ok_X9_board.2.2.2 (Nat.le_of_ble_eq_true rfl) (k_X9_board_0 (c_X9_isPlace (fun z1 z2 _ => k_X9_board_6 (fun c => absurd c sk_n10) (fun _ => c_X9_isIn (l := 0) (u := 3) (by decide) (by decide) (by decide) (by decide) (fun z3 => k_X9_board_15 (fun _ => ?_) (fun c => absurd c sk_n10)) (fun z3 => k_X9_board_15 (fun c => absurd rfl c) (fun _ => q0 (fun w => z3 w.2.2.1))))) (fun z => k_X9_board_6 (fun _ => q0 (fun w => z ⟨w.1, w.2.1, 0, by decide, by decide, rfl⟩)) (fun c => absurd rfl c))))
  obtain ⟨e1, a1, b1⟩ := sk_rg_n z1 (by decide)
  obtain ⟨e2, a2, b2⟩ := sk_rg_n z2 (by decide)
  obtain ⟨e3, a3, b3⟩ := sk_rg_n z3 (by decide)
  generalize sk_n x1 = b at e1 a1 b1 q1
  generalize sk_n x2 = t at e2 a2 b2 q1
  generalize sk_n x3 = p at e3 a3 b3 q1
  subst e1; subst e2; subst e3
  have ek : ∀ k, k < 8 → ((x4 >>> ((28 - (4 * nI k)) &&& 31)) &&& 15) = nI (sk_nib x4 (7 - k)) := fun k hk => by
    rw [show (28 : Int32) - 4 * nI k = nI (28 - 4 * k) by rw [show (4 : Int32) = nI 4 from rfl, show (28 : Int32) = nI 28 from rfl, pk_mul, pk_sub (by omega)], sk_nib_shr x4 hk]
  have loop2 : (∀ i, i < 8 → sk_nib x4 i ≤ 9) → ∀ n k (hi1 : Nat → Nat → Int32), k + n = 8 → (∀ a, a ≠ 21 → hi1 a = hi a) → (∀ j, hi1 21 j = if 1520 + (b * 24 + t) * 32 + 8 * p ≤ j ∧ j < 1520 + (b * 24 + t) * 32 + 8 * p + k then nI (sk_nib x4 (7 - (j - (1520 + (b * 24 + t) * 32 + 8 * p)))) else hi 21 j) → sk_Go Γ (sk_M Γ m_X9_board Q) (0, 0) 59 [some (.ref 20), some (.int (nI b)), some (.int (nI t)), some (.int (nI p)), some (.int x4), some (.int (nI k))] [] (sk_h hi1 rr ex) := by
    intro z4 n
    induction n with
    | zero =>
      intro k hi1 hh ho h3
      have e : k = 8 := by omega
      subst e
      refine k_X9_board_59 (fun _ => ?_) (fun c => absurd (nI_le (Nat.le_refl 8) (by decide)) c)
      refine q1 ⟨z1, z2, z3, z4⟩ _ (sk_R_e hG.2.2.2.2.2.1 hR (fun j h1 h2 => by rw [h3, if_neg (by omega)]) (fun b' hb t' ht h hh => ?_)) (sk_FR_21 ho (fun j hj => by rw [h3, if_neg (by omega)]))
      rw [h3]
      unfold sk_ub
      by_cases hc : b' = b ∧ t' = t ∧ h / 8 = p
      · rw [if_pos (by omega), if_pos hc]
        congr 2
        omega
      · rw [if_neg (by omega), if_neg hc]
        exact hR.1 b' hb t' ht h hh
    | succ n ih =>
      intro k hi1 hh ho h3
      have hn : ¬ (8 : Int32) ≤ nI k := nI_ge (b := 8) (by omega) (by decide)
      refine k_X9_board_59 (fun c => absurd c hn) (fun _ => ?_)
      rw [show (8 : Int32) * nI p + nI k = nI (8 * p + k) by rw [show (8 : Int32) = nI 8 from rfl, pk_mul, nI_add]]
      refine c_at (k_X9_board_82 (vp_in_nI (by omega) (by decide)) ?_)
      rw [nI_clamp (by omega), nI_1, ek k (by omega)]
      refine ih (k + 1) _ (by omega) (fun a ha => by rw [sk_wi_o _ _ _ ha, ho a ha]) (fun j => ?_)
      rw [sk_wi_if]
      by_cases hj : j = 1520 + (b * 24 + t) * 32 + (8 * p + k)
      · rw [if_pos hj, if_pos (by omega)]
        congr 2
        omega
      · rw [if_neg hj, h3]
        by_cases hk : 1520 + (b * 24 + t) * 32 + 8 * p ≤ j ∧ j < 1520 + (b * 24 + t) * 32 + 8 * p + k
        · rw [if_pos hk, if_pos (by omega)]
        · rw [if_neg hk, if_neg (by omega)]
  have loop1 : ∀ n k, k + n = 8 → (∀ j, j < k → sk_nib x4 (7 - j) ≤ 9) → sk_Go Γ (sk_M Γ m_X9_board Q) (0, 0) 23 [some (.ref 20), some (.int (nI b)), some (.int (nI t)), some (.int (nI p)), some (.int x4), some (.int (nI k))] [] (sk_h hi rr ex) := by
    intro n
    induction n with
    | zero =>
      intro k hh ha
      have e : k = 8 := by omega
      subst e
      exact k_X9_board_23 (fun _ => loop2 (fun i hi' => by have := ha (7 - i) (by omega); rwa [show 7 - (7 - i) = i by omega] at this) 8 0 hi (by omega) (fun _ _ => rfl) (fun j => by rw [if_neg (by omega)])) (fun c => absurd (nI_le (Nat.le_refl 8) (by decide)) c) (fun c => absurd (nI_le (Nat.le_refl 8) (by decide)) c)
    | succ n ih =>
      intro k hh ha
      have hn : ¬ (8 : Int32) ≤ nI k := nI_ge (b := 8) (by omega) (by decide)
      have hl := sk_nib_lt x4 (7 - k)
      refine k_X9_board_23 (fun c => absurd c hn) (fun _ c => ?_) (fun _ c => ?_)
      · rw [ek k (by omega)] at c
        have c := (nI_leI (b := 9) (by omega) (by decide)).mp c
        rw [nI_1]
        exact ih (k + 1) (by omega) (fun j hj => by rcases Nat.lt_or_ge j k with h | h; exact ha j h; rw [show j = k by omega]; exact c)
      · rw [ek k (by omega)] at c
        exact q0 (fun w => c ((nI_leI (b := 9) (by omega) (by decide)).mpr (w.2.2.2 (7 - k) (by omega))))
  exact loop1 8 0 (by omega) (fun j hj => by omega)
theorem cm_tell {x1 x2 x3 x4 : Int32} (hG : sk_G S) (hR : sk_R0 hi S) (q : Q (some (.int (vl_tell S x1 x2 x3 x4))) (sk_h hi rr ex)) : sk_Ct Γ m_X9_tell [.ref 20, .int x1, .int x2, .int x3, .int x4] (sk_h hi rr ex) Q := by
  unfold vl_tell at q
  refine sk_Ct.of ok_X9_tell.2.2.2 (Nat.le_of_ble_eq_true rfl) (k_X9_tell_0 (c_X9_isPlace (fun z1 z2 z3 => ?_) (fun z => k_X9_tell_6 (fun c => absurd rfl c) (fun c => absurd rfl c) (fun c => absurd rfl c) (fun c => absurd rfl c) (fun _ => by rw [sk_if_f z] at q; exact q))))
  rw [sk_if_t ⟨z1, z2, z3⟩] at q
  obtain ⟨e1, a1, b1⟩ := sk_rg_n z1 (by decide)
  obtain ⟨e2, a2, b2⟩ := sk_rg_n z2 (by decide)
  obtain ⟨e3, a3, b3⟩ := sk_rg_n z3 (by decide)
  refine k_X9_tell_6 (fun _ c0 c1 c2 => ?_) (fun _ c0 c1 c => ?_) (fun _ c0 c => ?_) (fun _ c => ?_) (fun c => absurd c sk_n10)
  · rw [if_neg c0, if_neg c1, if_neg c2] at q
    exact q
  · rw [if_neg c0, if_neg c1, if_pos c] at q
    rw [show ([.ref 20, .int x1, .int x2] : List Value) = [.ref 20, .int (nI (sk_n x1)), .int (nI (sk_n x2))] by rw [← e1, ← e2]]
    exact c_rBarred hG hR (by omega) (by omega) (fun p => k_X9_tell_58 (fun c => absurd c sk_n10) (fun _ => by rw [if_pos p] at q; exact q)) (fun p => k_X9_tell_58 (fun _ => by rw [if_neg (by rw [p]; decide)] at q; exact q) (fun c => absurd rfl c))
  · rw [if_neg c0, if_pos c] at q
    rw [show ([.ref 20, .int x1, .int x2, .int x3] : List Value) = [.ref 20, .int (nI (sk_n x1)), .int (nI (sk_n x2)), .int (nI (sk_n x3))] by rw [← e1, ← e2, ← e3]]
    exact c_worth hG hR (by omega) (by omega) (by omega) (k_X9_tell_43 q)
  · rw [if_pos c] at q
    rw [show ([.int x1, .int x2, .int x3] : List Value) = [.int (nI (sk_n x1)), .int (nI (sk_n x2)), .int (nI (sk_n x3))] by rw [← e1, ← e2, ← e3]]
    refine c_at (k_X9_tell_26 (vp_in_nI (by omega) (by decide)) ?_)
    rw [nI_clamp (by omega), sk_R0_e hR (by omega) (by omega) (by omega)]
    exact q
end REF1
