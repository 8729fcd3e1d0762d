theorem sk_abx {a b : Nat} (ha : a < 2 ^ 30) (hb : b < 2 ^ 30) : sk_abs (nI a - nI b) = nI (sk_ad a b) := by
  have h1 := pk_sub_toInt (a := a) (b := b) ha hb
  unfold sk_abs sk_ad
  by_cases h : b ≤ a
  · rw [if_pos (by rw [Int32.le_iff_toInt_le, h1, show (0 : Int32).toInt = 0 by decide]; omega), pk_sub h, show b - a = 0 by omega, Nat.add_zero]
  · rw [if_neg (by rw [Int32.le_iff_toInt_le, h1, show (0 : Int32).toInt = 0 by decide]; omega), show a - b = 0 by omega, Nat.zero_add]
    apply Int32.toInt_inj.mp
    rw [nI_toInt (by omega), Int32.toInt_sub, h1, show (0 : Int32).toInt = 0 by decide, Int.bmod_def]
    split <;> omega
theorem sk_lowx {h : Nat} (hh : h < 32) : sk_max 0 (nI h - 3) = nI (h - 3) := by
  have key : ∀ h, h < 32 → sk_max 0 (nI h - 3) = nI (h - 3) := by decide +kernel
  exact key h hh
def sk_top (h : Nat) : Nat := if h + 3 ≤ 31 then h + 3 else 31
theorem sk_topx {h : Nat} (hh : h < 32) : sk_min 31 (nI h + 3) = nI (sk_top h) := by
  have key : ∀ h, h < 32 → sk_min 31 (nI h + 3) = nI (sk_top h) := by decide +kernel
  exact key h hh
theorem sk_top_nr {h : Nat} (hh : h < 32) : h - 3 + sk_nr h = sk_top h + 1 ∧ sk_top h ≤ 31 := by
  unfold sk_top sk_nr
  split <;> omega
theorem sk_nox : (-1000000 : Int32) = sI sk_no := by decide
theorem sk_plx (t h : Nat) : nI t * 32 + nI h = nI (t * 32 + h) := by
  rw [show (32 : Int32) = nI 32 from rfl, pk_mul, nI_add]
/-- a row of the class's two tables -/
def sk_CR (hi : Nat → Nat → Int32) (t : Nat) (f : sk_Rw) : Prop := ∀ h, h < 32 → hi 13 (t * 32 + h) = sI (f h).1 ∧ hi 14 (t * 32 + h) = nI (f h).2
theorem sk_Or_sm {t : Nat} {f : sk_Rw} (ht : t ≤ 24) (hf : sk_Or t f) {h : Nat} (hh : h < 32) : sk_Sm (f h).1 ∧ (f h).2 < 24 := by
  obtain ⟨a, b, c⟩ := hf h hh
  refine ⟨?_, by omega⟩
  rcases a with a | a
  · exact Or.inl a
  · exact Or.inr ⟨by omega, by omega⟩
theorem sk_Ac_sm {t : Nat} {bar : Bool} {a : Int × Nat} (ht : t < 24) (h : sk_Ac t bar a) : sk_Sm a.1 ∧ a.2 < 24 := by
  obtain ⟨-, a1, a2, a3⟩ := h
  refine ⟨?_, by omega⟩
  rcases a1 with a1 | a1
  · exact Or.inl a1
  · exact Or.inr ⟨by omega, by omega⟩
theorem sk_Sm_32 {a : Int} (h : sk_Sm a) : sk_sm32 a := by
  rcases h with h | h
  · rw [h]; unfold sk_no sk_sm32; omega
  · unfold sk_sm32; omega
section FIND
variable {Γ : sk_Cx} {Q : Option Value → sk_Hp → Prop} {rr : Nat → Nat → Option Nat} {ex : List (Nat × Nat)} {hi : Nat → Nat → Int32} {S : sk_S}
theorem c_placeOf {t h : Nat} (q : Q (some (.int (nI (t * 32 + h)))) (sk_h hi rr ex)) : sk_Ct Γ m_X6_placeOf [.int (nI t), .int (nI h)] (sk_h hi rr ex) Q :=
  sk_Ct.of ok_X6_placeOf.2.2.2 (Nat.le_of_ble_eq_true rfl) (k_X6_placeOf_0 (by rw [sk_plx]; exact q))
theorem c_lowest {h : Nat} (hh : h < 32) (q : Q (some (.int (nI (h - 3)))) (sk_h hi rr ex)) : sk_Ct Γ m_X6_lowest [.int (nI h)] (sk_h hi rr ex) Q :=
  sk_Ct.of ok_X6_lowest.2.2.2 (Nat.le_of_ble_eq_true rfl) (k_X6_lowest_0 (by rw [sk_lowx hh]; exact q))
theorem c_highest {h : Nat} (hh : h < 32) (q : Q (some (.int (nI (sk_top h)))) (sk_h hi rr ex)) : sk_Ct Γ m_X6_highest [.int (nI h)] (sk_h hi rr ex) Q :=
  sk_Ct.of ok_X6_highest.2.2.2 (Nat.le_of_ble_eq_true rfl) (k_X6_highest_0 (by rw [sk_topx hh]; exact q))
theorem c_weigh {t h : Nat} {bar : Bool} {w : Nat → Nat} {f : sk_Rw} {x3 : Int32} (ht : t < 24) (hh : h < 32) (hf : t + 1 < 24 → sk_Or (t + 1) f) (hn : t + 1 < 24 → sk_CR hi (t + 1) f) (hx : x3 = if bar = true then 0 else 1) (hw : w h ≤ 18)
    (q : Q none (sk_h (sk_wi (sk_wi hi 13 (t * 32 + h) (sI (sk_rw bar t w f h).1)) 14 (t * 32 + h) (nI (sk_rw bar t w f h).2)) rr ex)) : sk_Ct Γ m_X6_weigh [.ref 12, .int (nI t), .int (nI h), .int x3, .int (nI (w h))] (sk_h hi rr ex) Q := by
  obtain ⟨n1, n2⟩ := sk_nr_ok hh
  obtain ⟨p1, p2⟩ := sk_top_nr hh
  have e1 : nI t + 1 = nI (t + 1) := nI_1 t
  -- the end
  have fin : ∀ (x7 : Int32) (x8 : Int32), x7 < x8 → sk_Go Γ (sk_M Γ m_X6_weigh Q) (0, 0) 39 [some (.ref 12), some (.int (nI t)), some (.int (nI h)), some (.int x3), some (.int (nI (w h))), some (.int (sI (sk_mo bar t f h).1)), some (.int (nI (sk_mo bar t f h).2)), some (.int x7), some (.int x8), none, none] [] (sk_h hi rr ex) := by
    intro x7 x8 hlt
    have ac := sk_Ac_sm ht (sk_Ac_mo (bar := bar) ht hh hf)
    refine k_X6_weigh_39 (fun _ => c_placeOf (k_X6_weigh_135 (fun _ => vp_in_nI (by omega) (by decide)) (fun c => ?_) (fun _ => vp_in_nI (by omega) (by decide)) (fun c => ?_))) (fun c => absurd hlt c)
    · rw [sk_nox, sI_eq (sk_Sm_32 ac.1) (by unfold sk_sm32 sk_no; omega)] at c
      rw [nI_clamp (by omega), show (1 : Int32) = sI 1 by decide, sI_nI (w h), sI_add, sI_sub]
      unfold sk_rw at q
      simp only [if_neg c] at q
      exact q
    · rw [sk_nox, sI_eq (sk_Sm_32 ac.1) (by unfold sk_sm32 sk_no; omega)] at c
      rw [nI_clamp (by omega), sk_nox]
      unfold sk_rw at q
      simp only [if_pos c] at q
      exact q
  -- the search
  have loop : t + 1 < 24 → ∀ n i, i + n = sk_nr h → sk_Go Γ (sk_M Γ m_X6_weigh Q) (0, 0) 39 [some (.ref 12), some (.int (nI t)), some (.int (nI h)), some (.int x3), some (.int (nI (w h))), some (.int (sI (sk_fd f h (sk_in0 bar t) (h - 3) i).1)), some (.int (nI (sk_fd f h (sk_in0 bar t) (h - 3) i).2)), some (.int (nI (sk_top h))), some (.int (nI (h - 3 + i))), none, none] [] (sk_h hi rr ex) := by
    intro ht1 n
    induction n with
    | zero =>
      intro i hi'
      have e : i = sk_nr h := by omega
      subst e
      have := fin (nI (sk_top h)) (nI (h - 3 + sk_nr h)) (nI_lt (by omega) (by omega))
      unfold sk_mo at this
      rw [if_pos ht1] at this
      exact this
    | succ n ih =>
      intro i hi'
      have hto : h - 3 + i < 32 := by omega
      have hle : ¬ nI (sk_top h) < nI (h - 3 + i) := nI_nlt (by omega) (by omega)
      obtain ⟨r1, r2⟩ := hn ht1 (h - 3 + i) hto
      obtain ⟨f1, f2⟩ := sk_Or_sm (by omega) (hf ht1) hto
      have ac := sk_Ac_sm ht (sk_Ac_fd (h := h) (lo := h - 3) ht1 (hf ht1) (sk_Ac_0 ht bar) i (by omega) (fun j hj => n2 j (by omega)))
      have had := n2 i (by omega)
      have nx := ih (i + 1) (by omega)
      have e2 : nI (h - 3 + i) + 1 = nI (h - 3 + (i + 1)) := nI_1 _
      have es : sk_fd f h (sk_in0 bar t) (h - 3) (i + 1) = sk_stp f h (sk_fd f h (sk_in0 bar t) (h - 3) i) (h - 3 + i) := rfl
      rw [es] at nx
      generalize sk_fd f h (sk_in0 bar t) (h - 3) i = a at ac nx ⊢
      have hv : hi 13 ((t + 1) * 32 + (h - 3 + i)) - sk_abs (nI (h - 3 + i) - nI h) = sI ((f (h - 3 + i)).1 - sk_ad (h - 3 + i) h) := by
        rw [r1, sk_abx (by omega) (by omega), sI_nI, sI_sub]
      have hno : hi 13 ((t + 1) * 32 + (h - 3 + i)) = -1000000 ↔ (f (h - 3 + i)).1 = sk_no := by
        rw [r1, sk_nox, sI_eq (sk_Sm_32 f1) (by unfold sk_sm32 sk_no; omega)]
      have vs : (f (h - 3 + i)).1 ≠ sk_no → sk_sm32 ((f (h - 3 + i)).1 - sk_ad (h - 3 + i) h) := fun hne => by
        rcases f1 with f1 | f1
        · exact absurd f1 hne
        · unfold sk_sm32; omega
      refine k_X6_weigh_39 (fun c => absurd c hle) (fun _ => ?_)
      rw [e1]
      refine c_placeOf (k_X6_weigh_54 (vp_in_nI (by omega) (by decide)) (fun c => ?_) (fun c0 c => ?_) (fun c0 c1 c => ?_) (fun c0 c1 c2 c => ?_) (fun c0 c1 c2 c => ?_))
      · rw [nI_clamp (by omega), hno] at c
        rw [e2]
        unfold sk_stp at nx
        rw [if_pos c] at nx
        exact nx
      · rw [nI_clamp (by omega), hno] at c0
        rw [nI_clamp (by omega), hv, sI_lt (sk_Sm_32 ac.1) (vs c0)] at c
        rw [nI_clamp (by omega), hv, r2, e2]
        unfold sk_stp at nx
        rw [if_neg c0, if_pos (Or.inl c)] at nx
        exact nx
      · rw [nI_clamp (by omega), hno] at c0
        rw [nI_clamp (by omega), hv, sI_lt (sk_Sm_32 ac.1) (vs c0)] at c1
        rw [nI_clamp (by omega), hv, sI_eq (vs c0) (sk_Sm_32 ac.1)] at c
        rw [e2]
        unfold sk_stp at nx
        rw [if_neg c0, if_neg (by rintro (z | z); exact c1 z; exact c z.1)] at nx
        exact nx
      · rw [nI_clamp (by omega), hno] at c0
        rw [nI_clamp (by omega), hv, sI_lt (sk_Sm_32 ac.1) (vs c0)] at c1
        rw [nI_clamp (by omega), r2, nI_leI (by omega) (by omega)] at c
        rw [e2]
        unfold sk_stp at nx
        rw [if_neg c0, if_neg (by rintro (z | z); exact c1 z; omega)] at nx
        exact nx
      · rw [nI_clamp (by omega), hno] at c0
        rw [nI_clamp (by omega), hv, sI_lt (sk_Sm_32 ac.1) (vs c0)] at c1
        rw [nI_clamp (by omega), hv, sI_eq (vs c0) (sk_Sm_32 ac.1)] at c2
        rw [nI_clamp (by omega), r2, nI_leI (by omega) (by omega)] at c
        rw [nI_clamp (by omega), hv, r2, e2]
        unfold sk_stp at nx
        rw [if_neg c0, if_pos (Or.inr ⟨c2, by omega⟩)] at nx
        exact nx
  refine sk_Ct.of ok_X6_weigh.2.2.2 (Nat.le_of_ble_eq_true rfl) ?_
  have i24 : (24 : Int32) ≤ nI t + 1 ↔ ¬ t + 1 < 24 := by
    rw [e1]
    have := nI_leI (a := 24) (b := t + 1) (by decide) (by omega)
    exact ⟨fun z => by have := this.mp z; omega, fun z => this.mpr (by omega)⟩
  have m0 : (-1 : Int32) < nI (h - 3) := by rw [Int32.lt_iff_toInt_lt, nI_toInt (by omega), show ((-1 : Int32)).toInt = -1 by decide]; omega
  cases bar with
  | true =>
    have hx0 : x3 = 0 := hx
    subst hx0
    refine k_X6_weigh_0 (fun _ c => c_lowest hh (k_X6_weigh_37 ?_)) (fun _ c => c_highest hh (k_X6_weigh_27 (c_lowest hh (k_X6_weigh_37 ?_)))) (fun c => absurd rfl c) (fun c => absurd rfl c)
    · have := fin (-1) (nI (h - 3)) m0
      unfold sk_mo at this
      rw [if_neg (i24.mp c)] at this
      exact this
    · exact loop (Decidable.not_not.mp (fun z => c (i24.mpr z))) (sk_nr h) 0 (by omega)
  | false =>
    have hx0 : x3 = 1 := hx
    subst hx0
    refine k_X6_weigh_0 (fun c => absurd c sk_n10) (fun c => absurd c sk_n10) (fun _ c => c_lowest hh (k_X6_weigh_37 ?_)) (fun _ c => c_highest hh (k_X6_weigh_27 (c_lowest hh (k_X6_weigh_37 ?_))))
    · have := fin (-1) (nI (h - 3)) m0
      unfold sk_mo at this
      rw [if_neg (i24.mp c)] at this
      exact this
    · exact loop (Decidable.not_not.mp (fun z => c (i24.mpr z))) (sk_nr h) 0 (by omega)
/-- the class's fields of a start -/
def sk_CSe (hi : Nat → Nat → Int32) (a : sk_Se) : Prop := hi 12 3 = sI a.1 ∧ match a.2 with
  | none => hi 12 4 = -1 ∧ hi 12 5 = -1
  | some c => hi 12 4 = nI c.1 ∧ hi 12 5 = nI c.2.1 ∧ hi 15 c.1 = nI c.2.2
theorem c_tryStart {b t : Nat} {a : sk_Se} (hG : sk_G S) (ht : t < 24) (hD : sk_CR hi t (sk_D S b t)) (ha : sk_CSe hi a) (hok : sk_SeOk S b t a) (q : ∀ hi', sk_CSe hi' (sk_sh S b t a 32) → (∀ p, p ≠ 12 → p ≠ 15 → hi' p = hi p) → Q none (sk_h hi' rr ex)) : sk_Ct Γ m_X6_tryStart [.ref 12, .int (nI t)] (sk_h hi rr ex) Q := by
  refine sk_Ct.of ok_X6_tryStart.2.2.2 (Nat.le_of_ble_eq_true rfl) (k_X6_tryStart_0 ?_)
  have loop : ∀ n h (hi1 : Nat → Nat → Int32), h + n = 32 → (∀ p, p ≠ 12 → p ≠ 15 → hi1 p = hi p) → sk_CSe hi1 (sk_sh S b t a h) → sk_Go Γ (sk_M Γ m_X6_tryStart Q) (0, 0) 2 [some (.ref 12), some (.int (nI t)), some (.int (nI h)), none, none] [] (sk_h hi1 rr ex) := by
    intro n
    induction n with
    | zero =>
      intro h hi1 hh ho hs
      have e : h = 32 := by omega
      subst e
      exact k_X6_tryStart_2 (fun _ => q hi1 hs ho) (fun c => absurd (nI_le (a := 32) (Nat.le_refl 32) (by decide)) c)
    | succ n ih =>
      intro h hi1 hh ho hs
      have hn : ¬ (32 : Int32) ≤ nI h := nI_ge (b := 32) (by omega) (by decide)
      obtain ⟨r1, r2⟩ := hD h (by omega)
      rw [← ho 13 (by decide) (by decide)] at r1
      rw [← ho 14 (by decide) (by decide)] at r2
      have hoa := sk_SeOk_sh hG ht hok h (by omega)
      obtain ⟨d1, d2⟩ := sk_Or_sm (by omega) (sk_Or_D hG b (23 - t) t (by omega)) (show h < 32 by omega)
      have es : sk_sh S b t a (h + 1) = sk_sl (sk_D S b t h) t h (sk_sh S b t a h) := rfl
      have nx := fun hi2 => ih (h + 1) hi2 (by omega)
      rw [es] at nx
      generalize sk_sh S b t a h = A at hs hoa nx
      have e2 : nI h + 1 = nI (h + 1) := nI_1 h
      have vin : vp_in (nI (t * 32 + h)) 768 := vp_in_nI (by omega) (by decide)
      have tin : vp_in (nI t) 24 := vp_in_nI ht (by decide)
      have wa : sk_sm32 A.1 := by
        cases hA : A.2 with
        | none => rw [hoa.1 hA]; unfold sk_sm32; omega
        | some c => obtain ⟨-, -, -, z1, z2, -⟩ := hoa.2 c hA; unfold sk_sm32; omega
      have lt3 : hi1 12 3 < hi1 13 (nI (t * 32 + h)).toNatClampNeg ↔ A.1 < (sk_D S b t h).1 := by
        rw [nI_clamp (by omega), r1, hs.1, sI_lt wa (sk_Sm_32 d1)]
      have eq3 : hi1 13 (nI (t * 32 + h)).toNatClampNeg = hi1 12 3 ↔ (sk_D S b t h).1 = A.1 := by
        rw [nI_clamp (by omega), r1, hs.1, sI_eq (sk_Sm_32 d1) wa]
      have take : sk_sl (sk_D S b t h) t h A = ((sk_D S b t h).1, some (t, (sk_D S b t h).2, h)) → sk_Go Γ (sk_M Γ m_X6_tryStart Q) (0, 0) 2 [some (.ref 12), some (.int (nI t)), some (.int (nI h + 1)), none, none] [] (sk_h (sk_wi (sk_wi (sk_wi (sk_wi hi1 12 3 (hi1 13 (nI (t * 32 + h)).toNatClampNeg)) 12 4 (nI t)) 12 5 (hi1 14 (nI (t * 32 + h)).toNatClampNeg)) 15 (nI t).toNatClampNeg (nI h)) rr ex) := fun hz => by
        rw [e2, nI_clamp (by omega), nI_clamp (by omega), r1, r2]
        refine nx _ (fun p p1 p2 => by rw [sk_wi_o _ _ _ p2, sk_wi_o _ _ _ p1, sk_wi_o _ _ _ p1, sk_wi_o _ _ _ p1, ho p p1 p2]) ?_
        rw [hz]
        exact ⟨rfl, rfl, rfl, sk_wi_self _ _ _ _⟩
      have keep : sk_sl (sk_D S b t h) t h A = A → sk_Go Γ (sk_M Γ m_X6_tryStart Q) (0, 0) 2 [some (.ref 12), some (.int (nI t)), some (.int (nI h + 1)), none, none] [] (sk_h hi1 rr ex) := fun hz => by
        rw [e2]
        refine nx _ ho ?_
        rw [hz]
        exact hs
      refine k_X6_tryStart_2 (fun c => absurd c hn) (fun _ => c_placeOf ?_)
      cases hA : A.2 with
      | none =>
        have h4 : hi1 12 4 = -1 := by have := hs.2; rw [hA] at this; exact this.1
        have hne : ¬ nI t = hi1 12 4 := by rw [h4]; exact sk_nm1 (by omega)
        refine k_X6_tryStart_13 (fun _ => vin) (fun _ _ => tin) (fun _ c => take ?_) (fun _ c => keep ?_) (fun c => absurd c hne) (fun c => absurd c hne) (fun c => absurd c hne) (fun c => absurd c hne) (fun c => absurd c hne) (fun c => absurd c hne) (fun c => absurd c hne) (fun c => absurd c hne) (fun c => absurd c hne) (fun c => absurd c hne) (fun c => absurd c hne)
        · unfold sk_sl; rw [hA]; simp only; rw [if_pos (lt3.mp c)]
        · unfold sk_sl; rw [hA]; simp only; rw [if_neg (fun z => c (lt3.mpr z))]
      | some c0 =>
        obtain ⟨z1, z2, z3, z4, z5, z6⟩ := hoa.2 c0 hA
        have hs2 := hs.2
        rw [hA] at hs2
        obtain ⟨h4, h5, h6⟩ := hs2
        have lc : c0.2.1 < 24 := by
          have := (sk_Or_sm (by omega) (sk_Or_D hG b (23 - c0.1) c0.1 (by omega)) z3).2
          rw [z6] at this
          exact this
        have eq4 : nI t = hi1 12 4 ↔ t = c0.1 := by rw [h4, nI_eq (by omega) (by omega)]
        have le5 : hi1 12 5 ≤ hi1 14 (nI (t * 32 + h)).toNatClampNeg ↔ c0.2.1 ≤ (sk_D S b t h).2 := by
          rw [nI_clamp (by omega), r2, h5, nI_leI (by omega) (by omega)]
        have sl : sk_sl (sk_D S b t h) t h A = if A.1 < (sk_D S b t h).1 ∨ (t = c0.1 ∧ (sk_D S b t h).1 = A.1 ∧ (sk_D S b t h).2 < c0.2.1) then ((sk_D S b t h).1, some (t, (sk_D S b t h).2, h)) else A := by
          unfold sk_sl; rw [hA]
        refine k_X6_tryStart_13 (fun _ => vin) (fun _ _ => tin) (fun k0 c => take ?_) (fun k0 c => keep ?_) (fun _ => vin) (fun _ _ _ => tin) (fun k0 k1 c => take ?_) (fun k0 k1 c => keep ?_) (fun _ _ _ _ => tin) (fun k0 k1 k2 c => take ?_) (fun k0 k1 k2 c => keep ?_) (fun _ _ _ _ => tin) (fun k0 k1 k2 c => take ?_) (fun _ _ _ _ => tin) (fun k0 k1 k2 c => take ?_)
        · rw [sl, if_pos (Or.inl (lt3.mp c))]
        · rw [sl, if_neg (by rintro (z | z); exact c (lt3.mpr z); exact k0 (eq4.mpr z.1))]
        · rw [sl, if_pos (Or.inl (lt3.mp c))]
        · rw [sl, if_neg (by rintro (z | z); exact c (lt3.mpr z); exact k1 (eq3.mpr z.2.1))]
        · rw [sl, if_pos (Or.inl (lt3.mp c))]
        · rw [sl, if_neg (by rintro (z | z); exact c (lt3.mpr z); have := le5.mp k2; omega)]
        · rw [sl, if_pos (Or.inl (lt3.mp c))]
        · rw [sl, if_pos (Or.inr ⟨eq4.mp k0, eq3.mp k1, Nat.lt_of_not_le (fun z => k2 (le5.mpr z))⟩)]
  exact loop 32 0 hi (by omega) (fun _ _ _ => rfl) ha
theorem c_chooseStart {b : Nat} (hG : sk_G S) (hC : sk_Cn hi S) (hb : b < 4) (hD : ∀ t, t < 24 → sk_CR hi t (sk_D S b t)) (q : ∀ hi', sk_CSe hi' (sk_T S b) → (∀ p, p ≠ 12 → p ≠ 15 → hi' p = hi p) → Q none (sk_h hi' rr ex)) : sk_Ct Γ m_X6_chooseStart [.ref 12, .ref 2, .int (nI b)] (sk_h hi rr ex) Q := by
  refine sk_Ct.of ok_X6_chooseStart.2.2.2 (Nat.le_of_ble_eq_true rfl) (k_X6_chooseStart_0 ?_)
  have loop : ∀ n t (hi1 : Nat → Nat → Int32), t + n = 24 → (∀ p, p ≠ 12 → p ≠ 15 → hi1 p = hi p) → sk_CSe hi1 (sk_se S b t) → sk_Go Γ (sk_M Γ m_X6_chooseStart Q) (0, 0) 17 [some (.ref 12), some (.ref 2), some (.int (nI b)), some (.int (nI t))] [] (sk_h hi1 rr ex) := by
    intro n
    induction n with
    | zero =>
      intro t hi1 hh ho hs
      have e : t = 24 := by omega
      subst e
      exact k_X6_chooseStart_17 (fun _ => q hi1 hs ho) (fun c => absurd (nI_le (a := 24) (Nat.le_refl 24) (by decide)) c)
    | succ n ih =>
      intro t hi1 hh ho hs
      have hn : ¬ (24 : Int32) ≤ nI t := nI_ge (b := 24) (by omega) (by decide)
      have es : sk_se S b (t + 1) = if sk_bar S b t = true then sk_se S b t else sk_sh S b t (sk_se S b t) 32 := rfl
      refine k_X6_chooseStart_17 (fun c => absurd c hn) (fun _ => c_isBarred hb (by omega) (by rw [ho 4 (by decide) (by decide)]; exact hC.2.2.1 b hb) (fun p => k_X6_chooseStart_29 (fun _ => k_X6_chooseStart_37 ?_) (fun c => absurd c sk_n10)) (fun p => k_X6_chooseStart_29 (fun c => absurd rfl c) (fun _ => ?_)))
      · rw [nI_1]
        refine ih (t + 1) hi1 (by omega) ho ?_
        rw [es, if_pos p]
        exact hs
      · refine c_tryStart (S := S) (b := b) hG (by omega) (fun h hh => by rw [ho 13 (by decide) (by decide), ho 14 (by decide) (by decide)]; exact hD t (by omega) h hh) hs (sk_SeOk_se hG b t (by omega)) (fun hi2 h2 h3 => k_X6_chooseStart_37 ?_)
        rw [nI_1]
        refine ih (t + 1) hi2 (by omega) (fun p p1 p2 => by rw [h3 p p1 p2, ho p p1 p2]) ?_
        rw [es, if_neg (by rw [p]; decide)]
        exact h2
  exact loop 24 0 _ (by omega) (fun p p1 p2 => by rw [sk_wi_o _ _ _ p1, sk_wi_o _ _ _ p1, sk_wi_o _ _ _ p1]) ⟨rfl, rfl, rfl⟩
theorem c_nextHeight {b t h e i : Nat} {x3 : Int32} (hG : sk_G S) (ht : t + 1 < 24) (hh : h < 32) (he : e < 24) (hD : sk_CR hi (t + 1) (sk_D S b (t + 1))) (h5 : hi 12 5 = nI e) (hsm : sk_Sm ((sk_D S b t h).1 + 1 - sk_wo S b t h)) (hx : x3 = sI ((sk_D S b t h).1 + 1 - sk_wo S b t h)) (hf : sk_ff (sk_nx S b t h e) (sk_nr h) = some i) (q : Q (some (.int (nI (h - 3 + i)))) (sk_h hi rr ex)) : sk_Ct Γ m_X6_nextHeight [.ref 12, .int (nI (t + 1)), .int (nI h), .int x3] (sk_h hi rr ex) Q := by
  obtain ⟨n1, n2⟩ := sk_nr_ok hh
  obtain ⟨p1, p2⟩ := sk_top_nr hh
  have ilt := sk_ff_lt hf
  refine sk_Ct.of ok_X6_nextHeight.2.2.2 (Nat.le_of_ble_eq_true rfl) (k_X6_nextHeight_0 (c_highest hh (k_X6_nextHeight_4 (c_lowest hh (k_X6_nextHeight_10 ?_)))))
  have loop : ∀ n j, j + n = sk_nr h → sk_ff (sk_nx S b t h e) j = none → sk_Go Γ (sk_M Γ m_X6_nextHeight Q) (0, 0) 12 [some (.ref 12), some (.int (nI (t + 1))), some (.int (nI h)), some (.int x3), some (.int (nI (sk_top h))), some (.int (nI (h - 3 + j))), none] [] (sk_h hi rr ex) := by
    intro n
    induction n with
    | zero =>
      intro j hj hn
      have e1 : j = sk_nr h := by omega
      rw [e1, hf] at hn
      cases hn
    | succ n ih =>
      intro j hj hn
      have hle : ¬ nI (sk_top h) < nI (h - 3 + j) := nI_nlt (by omega) (by omega)
      obtain ⟨r1, r2⟩ := hD (h - 3 + j) (by omega)
      obtain ⟨f1, f2⟩ := sk_Or_sm (by omega) (sk_Or_D hG b (23 - (t + 1)) (t + 1) (by omega)) (show h - 3 + j < 32 by omega)
      have had := n2 j (by omega)
      have v32 : sk_sm32 ((sk_D S b (t + 1) (h - 3 + j)).1 - sk_ad (h - 3 + j) h) := by
        rcases f1 with f1 | f1
        · rw [f1]; unfold sk_sm32 sk_no; omega
        · unfold sk_sm32; omega
      have hv : hi 13 (nI ((t + 1) * 32 + (h - 3 + j))).toNatClampNeg - sk_abs (nI (h - 3 + j) - nI h) = x3 ↔ (sk_D S b (t + 1) (h - 3 + j)).1 - sk_ad (h - 3 + j) h = (sk_D S b t h).1 + 1 - sk_wo S b t h := by
        rw [nI_clamp (by omega), r1, sk_abx (by omega) (by omega), sI_nI, sI_sub, hx, sI_eq v32 (sk_Sm_32 hsm)]
      have hl : hi 14 (nI ((t + 1) * 32 + (h - 3 + j))).toNatClampNeg = hi 12 5 ↔ (sk_D S b (t + 1) (h - 3 + j)).2 = e := by
        rw [nI_clamp (by omega), r2, h5, nI_eq (by omega) (by omega)]
      have e2 : nI (h - 3 + j) + 1 = nI (h - 3 + (j + 1)) := nI_1 _
      have go : ¬ sk_nx S b t h e j = true → sk_Go Γ (sk_M Γ m_X6_nextHeight Q) (0, 0) 12 [some (.ref 12), some (.int (nI (t + 1))), some (.int (nI h)), some (.int x3), some (.int (nI (sk_top h))), some (.int (nI (h - 3 + j) + 1)), none] [] (sk_h hi rr ex) := fun z => by
        rw [e2]
        refine ih (j + 1) (by omega) ?_
        unfold sk_ff
        rw [hn]
        simp only
        rw [if_neg z]
      refine k_X6_nextHeight_12 (fun c => absurd c hle) (fun _ => c_placeOf (k_X6_nextHeight_25 (vp_in_nI (by omega) (by decide)) (fun c => go ?_) (fun c0 c => go ?_) (fun c0 c => ?_)))
      · unfold sk_nx; simp only [decide_eq_true_eq]; exact fun z => c (hv.mpr z.1)
      · unfold sk_nx; simp only [decide_eq_true_eq]; exact fun z => c (hl.mpr z.2)
      · have : sk_ff (sk_nx S b t h e) (sk_nr h) = some j := by
          refine sk_ff_up (m := j + 1) ?_ (by omega)
          unfold sk_ff
          rw [hn]
          simp only
          rw [if_pos (by unfold sk_nx; exact decide_eq_true ⟨hv.mp c0, hl.mp c⟩)]
        rw [hf] at this
        cases this
        exact q
  exact loop (sk_nr h) 0 (by omega) rfl
end FIND
