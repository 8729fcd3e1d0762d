noncomputable def sk_if {α : Type} (P : Prop) (a b : α) : α := @ite α P (Classical.propDecidable P) a b
theorem sk_if_t {α : Type} {P : Prop} {a b : α} (h : P) : sk_if P a b = a := by unfold sk_if; rw [if_pos h]
theorem sk_if_f {α : Type} {P : Prop} {a b : α} (h : ¬ P) : sk_if P a b = b := by unfold sk_if; rw [if_neg h]
abbrev sk_n (x : Int32) : Nat := x.toNatClampNeg
theorem sk_n_nI {j : Nat} (h : j < 2 ^ 31) : sk_n (nI j) = j := nI_clamp h
/-- what is heard at a tone -/
def sk_hd (S : sk_S) (b t h : Nat) : Nat := if t < 24 then (if sk_bar S b t = true then 0 else S.1 b t h) else 0
def sk_wo (S : sk_S) (b t h : Nat) : Nat := sk_hd S b t h + sk_hd S b (t + S.2.1.2.2) h
theorem sk_hd_le {S : sk_S} (hG : sk_G S) (b t h : Nat) : sk_hd S b t h ≤ 9 := by
  have := hG.1 b t h
  unfold sk_hd
  split
  · split <;> omega
  · omega
theorem sk_wo_le {S : sk_S} (hG : sk_G S) (b t h : Nat) : sk_wo S b t h ≤ 18 := by
  have h1 := sk_hd_le hG b t h
  have h2 := sk_hd_le hG b (t + S.2.1.2.2) h
  unfold sk_wo
  omega
abbrev sk_Cn (hi : Nat → Nat → Int32) (S : sk_S) : Prop := sk_C hi 2 3 4 6 7 8 9 10 S
section BOARDS2
variable {Γ : sk_Cx} {Q : Option Value → sk_Hp → Prop} {rr : Nat → Nat → Option Nat} {ex : List (Nat × Nat)} {hi : Nat → Nat → Int32} {S : sk_S}
theorem c_heardAt {b t h : Nat} (hG : sk_G S) (hC : sk_Cn hi S) (hb : b < 4) (ht : t < 2 ^ 31) (hh : h < 32) (q : Q (some (.int (nI (sk_hd S b t h)))) (sk_h hi rr ex)) : sk_Ct Γ m_X0_heardAt [.ref 2, .int (nI b), .int (nI t), .int (nI h)] (sk_h hi rr ex) Q := by
  refine sk_Ct.of ok_X0_heardAt.2.2.2 (Nat.le_of_ble_eq_true rfl) (k_X0_heardAt_0 (fun c => k_X0_heardAt_26 ?_) (fun c => ?_))
  · have h1 : 24 ≤ t := (nI_leI (a := 24) (by decide) ht).mp c
    unfold sk_hd at q
    rw [if_neg (by omega)] at q
    exact q
  · have h1 : t < 24 := Nat.lt_of_not_le (fun z => c ((nI_leI (a := 24) (by decide) ht).mpr z))
    refine c_isBarred hb h1 (hC.2.2.1 b hb) (fun p => k_X0_heardAt_12 (fun c => absurd c sk_n10) (fun _ => k_X0_heardAt_26 ?_)) (fun p => k_X0_heardAt_12 (fun _ => c_echoAt hb h1 hh (hC.1 b hb t h1 h hh) (k_X0_heardAt_26 ?_)) (fun c => absurd rfl c))
    · unfold sk_hd at q
      rw [if_pos h1, if_pos p] at q
      exact q
    · unfold sk_hd at q
      rw [if_pos h1, if_neg (by rw [p]; decide)] at q
      exact q
theorem c_worthAt {b t h : Nat} (hG : sk_G S) (hC : sk_Cn hi S) (hb : b < 4) (ht : t < 24) (hh : h < 32) (q : Q (some (.int (nI (sk_wo S b t h)))) (sk_h hi rr ex)) : sk_Ct Γ m_X0_worthAt [.ref 2, .int (nI b), .int (nI t), .int (nI h)] (sk_h hi rr ex) Q := by
  have hs := hG.2.2.2.1
  refine sk_Ct.of ok_X0_worthAt.2.2.2 (Nat.le_of_ble_eq_true rfl) (k_X0_worthAt_0 (c_heardAt hG hC hb (by omega) hh (k_X0_worthAt_7 ?_)))
  rw [hC.2.1.2.2, nI_add]
  refine c_heardAt hG hC hb (by omega) hh (k_X0_worthAt_19 ?_)
  rw [nI_add]
  exact q
theorem c_forget (q : Q none (sk_h (sk_wi hi 0 5 (-1)) rr ex)) : sk_Ct Γ m_X8_forgetTrace [.ref 0] (sk_h hi rr ex) Q :=
  sk_Ct.of ok_X8_forgetTrace.2.2.2 (Nat.le_of_ble_eq_true rfl) (k_X8_forgetTrace_0 q)
theorem c_areEchoes {x : Int32} (q1 : (∀ i, i < 8 → sk_nib x i ≤ 9) → Q (some (.int 1)) (sk_h hi rr ex)) (q0 : ¬ (∀ i, i < 8 → sk_nib x i ≤ 9) → Q (some (.int 0)) (sk_h hi rr ex)) : sk_Ct Γ m_X0_areEchoes [.int x] (sk_h hi rr ex) Q := by
  refine sk_Ct.of ok_X0_areEchoes.2.2.2 (Nat.le_of_ble_eq_true rfl) (k_X0_areEchoes_0 ?_)
  have loop : ∀ n i, i + n = 8 → (∀ j, j < i → sk_nib x j ≤ 9) → sk_Go Γ (sk_M Γ m_X0_areEchoes Q) (0, 0) 2 [some (.int x), some (.int (nI i))] [] (sk_h hi rr ex) := by
    intro n
    induction n with
    | zero =>
      intro i hi' ha
      have e : i = 8 := by omega
      subst e
      exact k_X0_areEchoes_2 (fun _ => q1 ha) (fun c => absurd (nI_le (Nat.le_refl 8) (by decide)) c) (fun c => absurd (nI_le (Nat.le_refl 8) (by decide)) c)
    | succ n ih =>
      intro i hi' ha
      have hn : ¬ (8 : Int32) ≤ nI i := nI_ge (b := 8) (by omega) (by decide)
      have hl := sk_nib_lt x i
      have e4 : (4 : Int32) * nI i = nI (4 * i) := by rw [show (4 : Int32) = nI 4 from rfl, pk_mul]
      refine k_X0_areEchoes_2 (fun c => absurd c hn) (fun _ c => ?_) (fun _ c => ?_)
      · rw [e4, sk_nib_ushr x (by omega)] at c
        have c := (nI_leI (b := 9) (by omega) (by decide)).mp c
        rw [nI_1]
        exact ih (i + 1) (by omega) (fun j hj => by rcases Nat.lt_or_ge j i with h | h; exact ha j h; rw [show j = i by omega]; exact c)
      · rw [e4, sk_nib_ushr x (by omega)] at c
        exact q0 (fun z => c ((nI_leI (b := 9) (by omega) (by decide)).mpr (z i (by omega))))
  exact loop 8 0 (by omega) (fun j hj => by omega)
end BOARDS2
