section FIND2
variable {Γ : sk_Cx} {Q : Option Value → sk_Hp → Prop} {rr : Nat → Nat → Option Nat} {ex : List (Nat × Nat)} {hi : Nat → Nat → Int32} {S : sk_S}
theorem sI_m1 (n : Nat) : nI n + (-1) = sI ((n : Int) - 1) := by
  rw [show (-1 : Int32) = sI (-1) by decide, sI_nI, sI_add]
  rfl
theorem sI_neg : sI (((0 : Nat) : Int) - 1) < 0 := by decide
theorem sI_pos (n : Nat) : sI (((n + 1 : Nat) : Int) - 1) = nI n := by
  rw [sI_nI]
  congr 1
  omega
theorem nI_nneg {n : Nat} (h : n < 2 ^ 31) : ¬ nI n < 0 := by
  rw [Int32.lt_iff_toInt_lt, nI_toInt h, show (0 : Int32).toInt = 0 by decide]
  omega
/-- the class's found trace -/
def sk_CF (hi : Nat → Nat → Int32) (S : sk_S) (b : Nat) : Prop := sk_CSe hi (sk_T S b) ∧ ∀ c, (sk_T S b).2 = some c → ∀ i, c.1 + i ≤ c.2.1 → hi 15 (c.1 + i) = nI (sk_pa S b c.1 c.2.1 c.2.2 i)
/-- what is known of THE TRACE -/
theorem sk_T_ok (hG : sk_G S) {b : Nat} {c : Nat × Nat × Nat} (hc : (sk_T S b).2 = some c) : c.1 < 24 ∧ c.2.2 < 32 ∧ 0 < (sk_T S b).1 ∧ (sk_T S b).1 ≤ 432 ∧ sk_D S b c.1 c.2.2 = ((sk_T S b).1, c.2.1) ∧ c.1 ≤ c.2.1 ∧ c.2.1 ≤ 23 := by
  obtain ⟨-, a2, a3, a4, a5, a6⟩ := (sk_SeOk_se hG b 24 (Nat.le_refl _)).2 c hc
  have := sk_Or_D hG b (23 - c.1) c.1 (by omega) c.2.2 a3
  rw [a6] at this
  exact ⟨a2, a3, a4, a5, a6, this.2.1, this.2.2⟩
theorem c_isFound (q0 : hi 12 4 = -1 → Q (some (.int 0)) (sk_h hi rr ex)) (q1 : ¬ hi 12 4 = -1 → Q (some (.int 1)) (sk_h hi rr ex)) : sk_Ct Γ m_X6_isFound [.ref 12] (sk_h hi rr ex) Q :=
  sk_Ct.of ok_X6_isFound.2.2.2 (Nat.le_of_ble_eq_true rfl) (k_X6_isFound_0 q0 q1)
theorem c_findT {b : Nat} (hG : sk_G S) (hC : sk_Cn hi S) (hb : b < 4) (q : ∀ hi', sk_CF hi' S b → (∀ p, p < 12 ∨ 15 < p → hi' p = hi p) → Q none (sk_h hi' rr ex)) : sk_Ct Γ m_X6_find [.ref 12, .ref 2, .int (nI b)] (sk_h hi rr ex) Q := by
  refine sk_Ct.of ok_X6_find.2.2.2 (Nat.le_of_ble_eq_true rfl) (k_X6_find_0 ?_)
  -- the path
  have path : ∀ (c : Nat × Nat × Nat), (sk_T S b).2 = some c → ∀ n i (hi1 : Nat → Nat → Int32), c.1 + i + n = c.2.1 → (∀ p, p < 12 ∨ 15 < p → hi1 p = hi p) → (∀ t, t < 24 → sk_CR hi1 t (sk_D S b t)) → sk_CSe hi1 (sk_T S b) → (∀ j, j ≤ i → hi1 15 (c.1 + j) = nI (sk_pa S b c.1 c.2.1 c.2.2 j)) → sk_Go Γ (sk_M Γ m_X6_find Q) (0, 0) 73 [some (.ref 12), some (.ref 2), some (.int (nI b)), some (.int (nI (c.1 + i))), none, none] [] (sk_h hi1 rr ex) := by
    intro c hc n
    obtain ⟨t1, t2, t3, t4, t5, t6, t7⟩ := sk_T_ok hG hc
    have pok := sk_pa_ok (b := b) (t0 := c.1) (e := c.2.1) (h0 := c.2.2) hG t2 t7 (by rw [t5]; unfold sk_no; show (sk_T S b).1 ≠ _; omega) (by rw [t5])
    induction n with
    | zero =>
      intro i hi1 hn ho hD hs hp
      have hs2 := hs.2
      rw [hc] at hs2
      obtain ⟨f1, f2, f3⟩ := hs2
      have fin : Q none (sk_h hi1 rr ex) := q hi1 ⟨hs, fun c' hc' j hj => by
        rw [hc] at hc'; cases hc'
        exact hp j (by omega)⟩ ho
      exact k_X6_find_73 (c_isFound (fun _ => k_X6_find_77 (fun _ => fin) (fun c => absurd rfl c) (fun c => absurd rfl c) (fun c => absurd rfl c)) (fun _ => k_X6_find_77 (fun c => absurd c sk_n10) (fun _ _ => fin) (fun _ c => absurd (by rw [f2]; exact nI_le (by omega) (by omega)) c) (fun _ c => absurd (by rw [f2]; exact nI_le (by omega) (by omega)) c)))
    | succ n ih =>
      intro i hi1 hn ho hD hs hp
      have hs2 := hs.2
      rw [hc] at hs2
      obtain ⟨f1, f2, f3⟩ := hs2
      have hlt : ¬ hi1 12 5 ≤ nI (c.1 + i) := by rw [f2]; exact nI_ge (by omega) (by omega)
      have hf : ¬ hi1 12 4 = -1 := by rw [f1]; exact sk_nm1 (by omega)
      obtain ⟨p1, p2, p3⟩ := pok i (by omega)
      obtain ⟨k, k1, k2, k3, k4, k5, k6⟩ := sk_nh_ok hG p1 (show c.1 + i < c.2.1 by omega) t7 p2 p3
      have hp2 : sk_pa S b c.1 c.2.1 c.2.2 (i + 1) = sk_nh S b (c.1 + i) (sk_pa S b c.1 c.2.1 c.2.2 i) c.2.1 := rfl
      have h15 := hp i (Nat.le_refl i)
      have hsm := (sk_Or_sm (t := c.1 + i) (by omega) (sk_Or_D hG b (23 - (c.1 + i)) (c.1 + i) (by omega)) p1).1
      generalize sk_pa S b c.1 c.2.1 c.2.2 i = h at p1 p2 p3 k1 k2 k3 k4 k5 k6 hp2 h15 hsm
      have C1 : sk_Cn hi1 S := sk_Cn_0 hC (fun a a1 a2 => ho a (by omega))
      have vin : vp_in (nI (c.1 + i)) 24 := vp_in_nI (by omega) (by decide)
      have ci : (nI (c.1 + i)).toNatClampNeg = c.1 + i := nI_clamp (by omega)
      have e1 : nI (c.1 + i) + 1 = nI (c.1 + i + 1) := nI_1 _
      refine k_X6_find_73 (c_isFound (fun z => absurd z hf) (fun _ => k_X6_find_77 (fun c => absurd c sk_n10) (fun _ c => absurd c hlt) (fun _ _ => vin) (fun _ _ => ?_)))
      rw [ci, h15]
      refine c_placeOf (k_X6_find_102 (vp_in_nI (by omega) (by decide)) vin ?_)
      rw [ci, h15]
      refine c_worthAt hG C1 hb (by omega) p1 (k_X6_find_117 vin ?_)
      rw [ci, h15, e1, nI_clamp (by omega), (hD (c.1 + i) (by omega) h p1).1]
      have hw := sk_wo_le hG b (c.1 + i) h
      have hsm2 : sk_Sm ((sk_D S b (c.1 + i) h).1 + 1 - sk_wo S b (c.1 + i) h) := by
        have hO := (sk_Or_D hG b (23 - (c.1 + i)) (c.1 + i) (by omega) h p1).1
        rcases hO with z | z
        · exact absurd z p2
        · exact Or.inr (by omega)
      refine c_nextHeight (S := S) (b := b) (t := c.1 + i) (h := h) (e := c.2.1) (i := k) hG (by omega) p1 (by omega) (hD _ (by omega)) f2 hsm2 (by rw [show (1 : Int32) = sI 1 by decide, sI_nI, sI_add, sI_sub]) k1 (k_X6_find_142 (vp_in_nI (by omega) (by decide)) ?_)
      rw [e1, nI_clamp (by omega)]
      refine ih (i + 1) _ (by omega) (fun p hp => by rw [sk_wi_o _ _ _ (by omega), ho p hp]) (fun t ht h hh => by rw [sk_wi_o _ _ _ (by decide), sk_wi_o _ _ _ (by decide)]; exact hD t ht h hh) ⟨by rw [sk_wi_o _ _ _ (by decide)]; exact hs.1, ?_⟩ (fun j hj => ?_)
      · rw [hc]
        refine ⟨by rw [sk_wi_o _ _ _ (by decide)]; exact f1, by rw [sk_wi_o _ _ _ (by decide)]; exact f2, by rw [sk_wi_ne _ _ (by omega)]; exact f3⟩
      · by_cases hj2 : j = i + 1
        · subst hj2
          rw [show c.1 + (i + 1) = c.1 + i + 1 from rfl, sk_wi_self, hp2, k3]
        · rw [sk_wi_ne _ _ (by omega)]
          exact hp j (by omega)
  have loop : ∀ n (hi1 : Nat → Nat → Int32), n ≤ 24 → (∀ p, p ≠ 13 → p ≠ 14 → hi1 p = hi p) → (∀ t, n ≤ t → t < 24 → sk_CR hi1 t (sk_D S b t)) → sk_Go Γ (sk_M Γ m_X6_find Q) (0, 0) 3 [some (.ref 12), some (.ref 2), some (.int (nI b)), some (.int (sI ((n : Int) - 1))), none, none] [] (sk_h hi1 rr ex) := by
    intro n
    induction n with
    | zero =>
      intro hi1 hn ho hD
      refine k_X6_find_3 (fun _ => ?_) (fun c => absurd sI_neg c)
      refine c_chooseStart (S := S) hG (sk_Cn_0 hC (fun a a1 a2 => ho a (by omega) (by omega))) hb (fun t ht => hD t (Nat.zero_le t) ht) (fun hi2 s2 o2 => k_X6_find_68 ?_)
      cases hc : (sk_T S b).2 with
      | none =>
        have h4 : hi2 12 4 = -1 := by have := s2.2; rw [hc] at this; exact this.1
        exact k_X6_find_73 (c_isFound (fun _ => k_X6_find_77 (fun _ => q hi2 ⟨s2, fun c hc' => by rw [hc] at hc'; cases hc'⟩ (fun p hp => by rw [o2 p (by omega) (by omega), ho p (by omega) (by omega)])) (fun c => absurd rfl c) (fun c => absurd rfl c) (fun c => absurd rfl c)) (fun z => absurd h4 z))
      | some c =>
        have hs2 := s2.2
        rw [hc] at hs2
        obtain ⟨f1, f2, f3⟩ := hs2
        obtain ⟨t1, t2, t3, t4, t5, t6, t7⟩ := sk_T_ok hG hc
        rw [f1]
        refine path c hc (c.2.1 - c.1) 0 hi2 (by omega) (fun p hp => by rw [o2 p (by omega) (by omega), ho p (by omega) (by omega)]) (fun t ht h hh => by rw [o2 13 (by decide) (by decide), o2 14 (by decide) (by decide)]; exact hD t (Nat.zero_le t) ht h hh) s2 (fun j hj => ?_)
        have : j = 0 := by omega
        subst this
        exact f3
    | succ t ih =>
      intro hi1 hn ho hD
      rw [sI_pos]
      have C1 : ∀ hi2 : Nat → Nat → Int32, (∀ p, p ≠ 13 → p ≠ 14 → hi2 p = hi p) → sk_Cn hi2 S := fun hi2 ho2 => sk_Cn_0 hC (fun a a1 a2 => ho2 a (by omega) (by omega))
      have e := sk_D_eq S b (t := t) (by omega)
      have inner : ∀ (x4 : Int32), (x4 = if sk_bar S b t = true then 0 else 1) → ∀ n h (hi2 : Nat → Nat → Int32), h + n = 32 → (∀ p, p ≠ 13 → p ≠ 14 → hi2 p = hi p) → (∀ t', t + 1 ≤ t' → t' < 24 → sk_CR hi2 t' (sk_D S b t')) → (∀ h', h' < h → hi2 13 (t * 32 + h') = sI (sk_D S b t h').1 ∧ hi2 14 (t * 32 + h') = nI (sk_D S b t h').2) → sk_Go Γ (sk_M Γ m_X6_find Q) (0, 0) 26 [some (.ref 12), some (.ref 2), some (.int (nI b)), some (.int (nI t)), some (.int x4), some (.int (nI h))] [] (sk_h hi2 rr ex) := by
        intro x4 hx n
        induction n with
        | zero =>
          intro h hi2 hh ho2 hD2 hr
          have : h = 32 := by omega
          subst this
          refine k_X6_find_26 (fun _ => ?_) (fun c => absurd (nI_le (a := 32) (Nat.le_refl 32) (by decide)) c)
          rw [sI_m1]
          refine ih hi2 (by omega) ho2 (fun t' h1 h2 => ?_)
          by_cases z : t' = t
          · subst z; exact hr
          · exact hD2 t' (by omega) h2
        | succ n ihn =>
          intro h hi2 hh ho2 hD2 hr
          have hn : ¬ (32 : Int32) ≤ nI h := nI_ge (b := 32) (by omega) (by decide)
          refine k_X6_find_26 (fun c => absurd c hn) (fun _ => c_worthAt hG (C1 hi2 ho2) hb (by omega) (by omega) (k_X6_find_47 ?_))
          refine c_weigh (bar := sk_bar S b t) (w := sk_wo S b t) (f := sk_D S b (t + 1)) (by omega) (by omega) (fun h1 => sk_Or_D hG b (23 - (t + 1)) (t + 1) (by omega)) (fun h1 => hD2 (t + 1) (Nat.le_refl _) h1) hx (sk_wo_le hG b t h) (k_X6_find_50 ?_)
          rw [← e, nI_1]
          refine ihn (h + 1) _ (by omega) (fun p p1 p2 => by rw [sk_wi_o _ _ _ p2, sk_wi_o _ _ _ p1, ho2 p p1 p2]) (fun t' h1 h2 h' hh' => ?_) (fun h' hh' => ?_)
          · rw [sk_wi_o _ _ _ (show (13 : Nat) ≠ 14 by decide), sk_wi_ne _ _ (by omega), sk_wi_ne _ _ (by omega), sk_wi_o _ _ _ (show (14 : Nat) ≠ 13 by decide)]
            exact hD2 t' h1 h2 h' hh'
          · by_cases z : h' = h
            · subst z
              rw [sk_wi_o _ _ _ (show (13 : Nat) ≠ 14 by decide), sk_wi_self, sk_wi_self]
              exact ⟨rfl, rfl⟩
            · rw [sk_wi_o _ _ _ (show (13 : Nat) ≠ 14 by decide), sk_wi_ne _ _ (by omega), sk_wi_ne _ _ (by omega), sk_wi_o _ _ _ (show (14 : Nat) ≠ 13 by decide)]
              exact hr h' (by omega)
      refine k_X6_find_3 (fun c => absurd c (nI_nneg (by omega))) (fun _ => c_isBarred hb (by omega) ((C1 hi1 ho).2.2.1 b hb) (fun p => k_X6_find_13 (fun _ => ?_) (fun c => absurd c sk_n10)) (fun p => k_X6_find_13 (fun c => absurd rfl c) (fun _ => ?_)))
      · exact inner 0 (by rw [if_pos p]) 32 0 hi1 (by omega) ho hD (fun h' hh' => by omega)
      · exact inner 1 (by rw [if_neg (by rw [p]; decide)]) 32 0 hi1 (by omega) ho hD (fun h' hh' => by omega)
  exact loop 24 hi (Nat.le_refl _) (fun _ _ _ => rfl) (fun t h1 h2 => by omega)
/-- what heightAt answers -/
def sk_ha (S : sk_S) (b : Nat) (x : Int32) : Int32 := match (sk_T S b).2 with
  | none => -1
  | some c => if x < nI c.1 ∨ nI c.2.1 < x then -1 else nI (sk_pa S b c.1 c.2.1 c.2.2 (x.toNatClampNeg - c.1))
theorem sk_rg_of {x : Int32} {a b : Nat} (ha : a < 2 ^ 31) (hb : b < 2 ^ 31) (h1 : ¬ x < nI a) (h2 : ¬ nI b < x) : ∃ n, a ≤ n ∧ n ≤ b ∧ x = nI n := by
  rw [Int32.lt_iff_toInt_lt, nI_toInt ha] at h1
  rw [Int32.lt_iff_toInt_lt, nI_toInt hb] at h2
  refine ⟨x.toInt.toNat, by omega, by omega, ?_⟩
  apply Int32.toInt_inj.mp
  rw [nI_toInt (by omega)]
  omega
theorem c_heightAt {b : Nat} {x : Int32} (hG : sk_G S) (hF : sk_CF hi S b) (q : Q (some (.int (sk_ha S b x))) (sk_h hi rr ex)) : sk_Ct Γ m_X6_heightAt [.ref 12, .int x] (sk_h hi rr ex) Q := by
  refine sk_Ct.of ok_X6_heightAt.2.2.2 (Nat.le_of_ble_eq_true rfl) (k_X6_heightAt_0 ?_)
  unfold sk_ha at q
  obtain ⟨hs, hp⟩ := hF
  have hs2 := hs.2
  cases hc : (sk_T S b).2 with
  | none =>
    rw [hc] at q hs2
    exact c_isFound (fun _ => k_X6_heightAt_4 (fun _ => q) (fun c => absurd rfl c) (fun c => absurd rfl c) (fun c => absurd rfl c) (fun c => absurd rfl c)) (fun z => absurd hs2.1 z)
  | some c =>
    rw [hc] at q hs2
    obtain ⟨f1, f2, f3⟩ := hs2
    obtain ⟨t1, t2, t3, t4, t5, t6, t7⟩ := sk_T_ok hG hc
    have hf : ¬ hi 12 4 = -1 := by rw [f1]; exact sk_nm1 (by omega)
    simp only at q
    refine c_isFound (fun z => absurd z hf) (fun _ => ?_)
    by_cases h1 : x < nI c.1
    · rw [if_pos (Or.inl h1)] at q
      rw [← f1] at h1
      exact k_X6_heightAt_4 (fun c => absurd c sk_n10) (fun _ _ => q) (fun _ c => absurd h1 c) (fun _ c => absurd h1 c) (fun _ c => absurd h1 c)
    · by_cases h2 : nI c.2.1 < x
      · rw [if_pos (Or.inr h2)] at q
        rw [← f1] at h1
        rw [← f2] at h2
        exact k_X6_heightAt_4 (fun c => absurd c sk_n10) (fun _ c => absurd c h1) (fun _ _ _ => q) (fun _ _ c => absurd h2 c) (fun _ _ c => absurd h2 c)
      · rw [if_neg (by rintro (z | z); exact h1 z; exact h2 z)] at q
        obtain ⟨n, n1, n2, n3⟩ := sk_rg_of (by omega) (by omega) h1 h2
        rw [← f1] at h1
        rw [← f2] at h2
        subst n3
        rw [nI_clamp (by omega)] at q
        refine k_X6_heightAt_4 (fun c => absurd c sk_n10) (fun _ c => absurd c h1) (fun _ _ c => absurd c h2) (fun _ _ _ => vp_in_nI (by omega) (by decide)) (fun _ _ _ => ?_)
        rw [nI_clamp (by omega), show n = c.1 + (n - c.1) by omega, hp c hc _ (by omega)]
        exact q
end FIND2
