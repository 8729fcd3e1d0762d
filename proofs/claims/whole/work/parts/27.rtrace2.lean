section RTRACE2
variable {Γ : sk_Cx} {Q : Option Value → sk_Hp → Prop} {rr : Nat → Nat → Option Nat} {ex : List (Nat × Nat)} {hi : Nat → Nat → Int32} {S : sk_S}
/-- the reference's found trace -/
def sk_RF (hi : Nat → Nat → Int32) (S : sk_S) (b : Nat) (c : Nat × Nat × Nat) : Prop := hi 20 5 = sI (sk_T S b).1 ∧ hi 20 6 = nI c.1 ∧ hi 20 7 = nI c.2.1 ∧ ∀ i, c.1 + i ≤ c.2.1 → hi 26 (c.1 + i) = nI (sk_pa S b c.1 c.2.1 c.2.2 i)
/-- only the reference's own tables of a trace have changed -/
def sk_FT (hi hi' : Nat → Nat → Int32) : Prop := ∀ p, (p < 20 ∨ p = 21 ∨ p = 22 ∨ 26 < p) → hi' p = hi p
theorem sk_FT_R {hi' : Nat → Nat → Int32} (h : sk_FT hi hi') (hR : sk_R0 hi S) : sk_R0 hi' S := by
  show sk_R (hi' 21) 0 S
  rw [h 21 (by omega)]
  exact hR
theorem sk_FT_FR {hi' : Nat → Nat → Int32} (h : sk_FT hi hi') : sk_FR hi hi' := ⟨fun a ha => h a (by omega), h 22 (by omega), fun j _ => by rw [h 21 (by omega)]⟩
/-- where the reference's search stands -/
def sk_RS (hi : Nat → Nat → Int32) (A : sk_Se) (x : Int32) : Prop := hi 20 5 = sI A.1 ∧ match A.2 with
  | none => x = -1
  | some c => x = nI (c.1 * 32 + c.2.2)
def sk_ah (S : sk_S) (b t h : Nat) : sk_Se := if sk_bar S b t = true then sk_se S b t else sk_sh S b t (sk_se S b t) h
theorem sk_neg1 : ¬ (0 : Int32) ≤ -1 := by decide
theorem sk_neg2 : (-1 : Int32) < 0 := by decide
theorem nI_div32 {k : Nat} (h : k < 2 ^ 31) : nI k / 32 = nI (k / 32) := by
  rw [show (32 : Int32) = nI 32 from rfl, pk_div h (by decide) (by decide)]
theorem nI_mod32 {k : Nat} (h : k < 2 ^ 31) : nI k - nI (k / 32) * 32 = nI (k % 32) := by
  rw [← nI_div32 h, show (32 : Int32) = nI 32 from rfl, pk_rem h (by decide) (by decide)]
theorem c_traces {b : Nat} (hG : sk_G S) (hR : sk_R0 hi S) (hb : b < 4) (q1 : ∀ c hi', (sk_T S b).2 = some c → sk_RF hi' S b c → sk_FT hi hi' → Q (some (.int 1)) (sk_h hi' rr ex)) (q0 : ∀ hi', (sk_T S b).2 = none → sk_FT hi hi' → Q (some (.int 0)) (sk_h hi' rr ex)) : sk_Ct Γ m_X9_traces [.ref 20, .int (nI b)] (sk_h hi rr ex) Q := by
  refine sk_Ct.of ok_X9_traces.2.2.2 (Nat.le_of_ble_eq_true rfl) (k_X9_traces_0 ?_)
  -- the path
  have path : ∀ (c : Nat × Nat × Nat), (sk_T S b).2 = some c → ∀ (x2 : Int32) n i (hi1 : Nat → Nat → Int32), c.1 + i + n = c.2.1 → sk_FT hi hi1 → (∀ t, t < 24 → sk_RR hi1 t (sk_D S b t)) → hi1 20 5 = sI (sk_T S b).1 → hi1 20 6 = nI c.1 → hi1 20 7 = nI c.2.1 → (∀ j, j ≤ i → hi1 26 (c.1 + j) = nI (sk_pa S b c.1 c.2.1 c.2.2 j)) → sk_Go Γ (sk_M Γ m_X9_traces Q) (0, 0) 196 [some (.ref 20), some (.int (nI b)), some (.int x2), some (.int (nI (sk_pa S b c.1 c.2.1 c.2.2 i))), some (.int (nI (c.1 + i)))] [] (sk_h hi1 rr ex) := by
    intro c hc x2 n
    obtain ⟨t1, t2, t3, t4, t5, t6, t7⟩ := sk_T_ok hG hc
    have pok := sk_pa_ok (b := b) (t0 := c.1) (e := c.2.1) (h0 := c.2.2) hG t2 t7 (by rw [t5]; unfold sk_no; show (sk_T S b).1 ≠ _; omega) (by rw [t5])
    induction n with
    | zero =>
      intro i hi1 hn ho hD g5 g6 g7 hp
      refine k_X9_traces_196 (fun _ => q1 c hi1 hc ⟨g5, g6, g7, fun j hj => hp j (by omega)⟩ ho) (fun z => absurd ?_ z)
      rw [g7]
      exact nI_le (by omega) (by omega)
    | succ n ih =>
      intro i hi1 hn ho hD g5 g6 g7 hp
      have hlt : ¬ hi1 20 7 ≤ nI (c.1 + i) := by rw [g7]; exact nI_ge (by omega) (by omega)
      obtain ⟨p1, p2, p3⟩ := pok i (by omega)
      obtain ⟨k, k1, k2, k3, k4, k5, k6⟩ := sk_nh_ok hG p1 (show c.1 + i < c.2.1 by omega) t7 p2 p3
      have hp2 : sk_pa S b c.1 c.2.1 c.2.2 (i + 1) = sk_nh S b (c.1 + i) (sk_pa S b c.1 c.2.1 c.2.2 i) c.2.1 := rfl
      have e1 : nI (c.1 + i) + 1 = nI (c.1 + (i + 1)) := nI_1 _
      have ih2 := fun hi2 => ih (i + 1) hi2 (by omega)
      rw [hp2, k3] at ih2
      have hsm2 : sk_Sm ((sk_D S b (c.1 + i) (sk_pa S b c.1 c.2.1 c.2.2 i)).1 + 1 - sk_wo S b (c.1 + i) (sk_pa S b c.1 c.2.1 c.2.2 i)) := by
        have hw := sk_wo_le hG b (c.1 + i) (sk_pa S b c.1 c.2.1 c.2.2 i)
        have hO := (sk_Or_D hG b (23 - (c.1 + i)) (c.1 + i) (by omega) _ p1).1
        rcases hO with z | z
        · exact absurd z p2
        · exact Or.inr (by omega)
      refine k_X9_traces_196 (fun z => absurd z hlt) (fun _ => c_rnext (S := S) (b := b) (e := c.2.1) (i := k) hG (sk_FT_R ho hR) hb (by omega) p1 (by omega) hD g7 hsm2 k1 (k_X9_traces_213 (by rw [e1]; exact vp_in_nI (by omega) (by decide)) ?_))
      rw [e1, nI_clamp (by omega)]
      refine ih2 _ (fun p hp => by rw [sk_wi_o _ _ _ (by omega), ho p hp]) (fun t ht h hh => by rw [sk_wi_o _ _ _ (by decide), sk_wi_o _ _ _ (by decide)]; exact hD t ht h hh) (by rw [sk_wi_o _ _ _ (by decide)]; exact g5) (by rw [sk_wi_o _ _ _ (by decide)]; exact g6) (by rw [sk_wi_o _ _ _ (by decide)]; exact g7) (fun j hj => ?_)
      by_cases hj2 : j = i + 1
      · subst hj2
        rw [sk_wi_self, hp2, k3]
      · rw [sk_wi_ne _ _ (by omega)]
        exact hp j (by omega)
  -- the search
  have scan : ∀ n k (hi1 : Nat → Nat → Int32) (x2 : Int32), k + n = 768 → sk_FT hi hi1 → (∀ t, t < 24 → sk_RR hi1 t (sk_D S b t)) → (∀ t, t < 24 → hi1 25 t = if sk_bar S b t = true then 1 else 0) → sk_RS hi1 (sk_ah S b (k / 32) (k % 32)) x2 → sk_Go Γ (sk_M Γ m_X9_traces Q) (0, 0) 55 [some (.ref 20), some (.int (nI b)), some (.int x2), some (.int (nI k)), none] [] (sk_h hi1 rr ex) := by
    intro n
    induction n with
    | zero =>
      intro k hi1 x2 hk ho hD hB hs
      have : k = 768 := by omega
      subst this
      have h768 : (768 : Int32) ≤ nI 768 := nI_le (a := 768) (Nat.le_refl 768) (by decide)
      have eA : sk_ah S b (768 / 32) (768 % 32) = sk_T S b := by
        show sk_ah S b 24 0 = _
        unfold sk_ah sk_T
        split <;> rfl
      rw [eA] at hs
      obtain ⟨s1, s2⟩ := hs
      cases hc : (sk_T S b).2 with
      | none =>
        rw [hc] at s2
        have s2 : x2 = -1 := s2
        subst s2
        exact k_X9_traces_55 (fun _ c => absurd c sk_neg1) (fun _ c => absurd c sk_neg1) (fun _ c => absurd c sk_neg1) (fun _ _ => q0 hi1 hc ho) (fun c => absurd h768 c) (fun c => absurd h768 c) (fun c => absurd h768 c) (fun c => absurd h768 c) (fun c => absurd h768 c) (fun c => absurd h768 c) (fun c => absurd h768 c) (fun c => absurd h768 c) (fun c => absurd h768 c) (fun c => absurd h768 c)
      | some c =>
        rw [hc] at s2
        have s2 : x2 = nI (c.1 * 32 + c.2.2) := s2
        subst s2
        obtain ⟨t1, t2, t3, t4, t5, t6, t7⟩ := sk_T_ok hG hc
        have dv : nI (c.1 * 32 + c.2.2) / 32 = nI c.1 := by rw [nI_div32 (by omega)]; congr 1; omega
        have md : nI (c.1 * 32 + c.2.2) - nI c.1 * 32 = nI c.2.2 := by
          have := nI_mod32 (k := c.1 * 32 + c.2.2) (by omega)
          rw [show (c.1 * 32 + c.2.2) / 32 = c.1 by omega, show (c.1 * 32 + c.2.2) % 32 = c.2.2 by omega] at this
          exact this
        refine k_X9_traces_55 (fun _ _ => vp_in_nI (by omega) (by decide)) (fun _ _ => by rw [dv]; exact vp_in_nI (by omega) (by decide)) (fun _ _ => ?_) (fun _ z => absurd (nI_le (a := 0) (b := c.1 * 32 + c.2.2) (Nat.zero_le _) (by omega)) z) (fun c => absurd h768 c) (fun c => absurd h768 c) (fun c => absurd h768 c) (fun c => absurd h768 c) (fun c => absurd h768 c) (fun c => absurd h768 c) (fun c => absurd h768 c) (fun c => absurd h768 c) (fun c => absurd h768 c) (fun c => absurd h768 c)
        have hl := (hD c.1 t1 c.2.2 t2).2
        rw [t5] at hl
        rw [dv, md, nI_clamp (by omega), nI_clamp (by omega), hl]
        refine path c hc (nI (c.1 * 32 + c.2.2)) (c.2.1 - c.1) 0 _ (by omega) (fun p hp => by rw [sk_wi_o _ _ _ (by omega), sk_wi_o _ _ _ (by omega), sk_wi_o _ _ _ (by omega), ho p hp]) (fun t ht h hh => ?_) ?_ ?_ ?_ (fun j hj => ?_)
        · rw [sk_wi_o _ _ _ (by decide), sk_wi_o _ _ _ (by decide), sk_wi_o _ _ _ (by decide), sk_wi_o _ _ _ (by decide), sk_wi_o _ _ _ (by decide), sk_wi_o _ _ _ (by decide)]
          exact hD t ht h hh
        · rw [sk_wi_o _ _ _ (by decide), sk_wi_ne _ _ (by decide), sk_wi_ne _ _ (by decide)]; exact s1
        · rw [sk_wi_o _ _ _ (by decide), sk_wi_ne _ _ (by decide), sk_wi_self]
        · rw [sk_wi_o _ _ _ (by decide), sk_wi_self]
        · have : j = 0 := by omega
          subst this
          exact sk_wi_self _ _ _ _
    | succ n ih =>
      intro k hi1 x2 hk ho hD hB hs
      have h768 : ¬ (768 : Int32) ≤ nI k := nI_ge (b := 768) (by omega) (by decide)
      have ht : k / 32 < 24 := by omega
      have hh : k % 32 < 32 := by omega
      have dk : nI k / 32 = nI (k / 32) := nI_div32 (by omega)
      have ck : (nI k).toNatClampNeg = k := nI_clamp (by omega)
      have ck2 : (nI (k / 32)).toNatClampNeg = k / 32 := nI_clamp (by omega)
      have vk : vp_in (nI k) 768 := vp_in_nI (by omega) (by decide)
      have vk2 : vp_in (nI k / 32) 24 := by rw [dk]; exact vp_in_nI ht (by decide)
      have e1 : nI k + 1 = nI (k + 1) := nI_1 k
      obtain ⟨r1, r2⟩ := hD (k / 32) ht (k % 32) hh
      rw [show k / 32 * 32 + k % 32 = k by omega] at r1 r2
      -- the next state
      have hnx : sk_ah S b ((k + 1) / 32) ((k + 1) % 32) = if sk_bar S b (k / 32) = true then sk_ah S b (k / 32) (k % 32) else sk_sl (sk_D S b (k / 32) (k % 32)) (k / 32) (k % 32) (sk_ah S b (k / 32) (k % 32)) := by
        have a1 : sk_ah S b (k / 32) (k % 32 + 1) = if sk_bar S b (k / 32) = true then sk_ah S b (k / 32) (k % 32) else sk_sl (sk_D S b (k / 32) (k % 32)) (k / 32) (k % 32) (sk_ah S b (k / 32) (k % 32)) := by
          unfold sk_ah
          cases sk_bar S b (k / 32) <;> rfl
        rw [← a1]
        by_cases z : k % 32 + 1 < 32
        · rw [show (k + 1) / 32 = k / 32 by omega, show (k + 1) % 32 = k % 32 + 1 by omega]
        · rw [show (k + 1) / 32 = k / 32 + 1 by omega, show (k + 1) % 32 = 0 by omega, show k % 32 + 1 = 32 by omega]
          have : ∀ t, sk_ah S b t 0 = sk_se S b t := fun t => by unfold sk_ah; split <;> rfl
          rw [this]
          unfold sk_ah
          rfl
      have hok : sk_SeOk S b (k / 32) (sk_ah S b (k / 32) (k % 32)) := by
        unfold sk_ah
        split
        · exact sk_SeOk_se hG b _ (by omega)
        · exact sk_SeOk_sh hG ht (sk_SeOk_se hG b _ (by omega)) _ (by omega)
      have nx := fun hi2 y2 => ih (k + 1) hi2 y2 (by omega)
      rw [hnx] at nx
      generalize sk_ah S b (k / 32) (k % 32) = A at hs hok nx
      obtain ⟨d1, d2⟩ := sk_Or_sm (by omega) (sk_Or_D hG b (23 - k / 32) (k / 32) (by omega)) hh
      cases hbr : sk_bar S b (k / 32) with
      | true =>
        have h25 : ¬ hi1 25 (nI k / 32).toNatClampNeg = 0 := by rw [dk, ck2, hB _ ht, hbr, if_pos rfl]; exact sk_n10
        refine k_X9_traces_55 (fun c => absurd c h768) (fun c => absurd c h768) (fun c => absurd c h768) (fun c => absurd c h768) (fun _ => vk2) (fun _ _ => ?_) (fun _ c => absurd c h25) (fun _ c => absurd c h25) (fun _ c => absurd c h25) (fun _ c => absurd c h25) (fun _ c => absurd c h25) (fun _ c => absurd c h25) (fun _ c => absurd c h25) (fun _ c => absurd c h25)
        rw [e1]
        refine nx hi1 x2 ho hD hB ?_
        rw [hbr, if_pos rfl]
        exact hs
      | false =>
        have h25 : hi1 25 (nI k / 32).toNatClampNeg = 0 := by rw [dk, ck2, hB _ ht, hbr, if_neg (by decide)]
        rw [hbr, if_neg (by decide)] at nx
        have wa : sk_sm32 A.1 := by
          cases hA : A.2 with
          | none => rw [hok.1 hA]; unfold sk_sm32; omega
          | some c => obtain ⟨-, -, -, z1, z2, -⟩ := hok.2 c hA; unfold sk_sm32; omega
        have lt5 : hi1 20 5 < hi1 23 (nI k).toNatClampNeg ↔ A.1 < (sk_D S b (k / 32) (k % 32)).1 := by
          rw [ck, r1, hs.1, sI_lt wa (sk_Sm_32 d1)]
        have lt6 : hi1 23 (nI k).toNatClampNeg < hi1 20 5 ↔ (sk_D S b (k / 32) (k % 32)).1 < A.1 := by
          rw [ck, r1, hs.1, sI_lt (sk_Sm_32 d1) wa]
        have take : sk_sl (sk_D S b (k / 32) (k % 32)) (k / 32) (k % 32) A = ((sk_D S b (k / 32) (k % 32)).1, some (k / 32, (sk_D S b (k / 32) (k % 32)).2, k % 32)) → sk_Go Γ (sk_M Γ m_X9_traces Q) (0, 0) 55 [some (.ref 20), some (.int (nI b)), some (.int (nI k)), some (.int (nI k + 1)), none] [] (sk_h (sk_wi hi1 20 5 (hi1 23 (nI k).toNatClampNeg)) rr ex) := fun hz => by
          rw [e1, ck, r1]
          refine nx _ _ (fun p hp => by rw [sk_wi_o _ _ _ (by omega), ho p hp]) (fun t ht h hh => by rw [sk_wi_o _ _ _ (by decide), sk_wi_o _ _ _ (by decide)]; exact hD t ht h hh) (fun t ht => by rw [sk_wi_o _ _ _ (by decide)]; exact hB t ht) ?_
          rw [hz]
          refine ⟨sk_wi_self _ _ _ _, ?_⟩
          show nI k = nI (k / 32 * 32 + k % 32)
          congr 1
          omega
        have keep : sk_sl (sk_D S b (k / 32) (k % 32)) (k / 32) (k % 32) A = A → sk_Go Γ (sk_M Γ m_X9_traces Q) (0, 0) 55 [some (.ref 20), some (.int (nI b)), some (.int x2), some (.int (nI k + 1)), none] [] (sk_h hi1 rr ex) := fun hz => by
          rw [e1]
          refine nx _ _ ho hD hB ?_
          rw [hz]
          exact hs
        cases hA : A.2 with
        | none =>
          have hx : x2 = -1 := by have := hs.2; rw [hA] at this; exact this
          subst hx
          refine k_X9_traces_55 (fun c => absurd c h768) (fun c => absurd c h768) (fun c => absurd c h768) (fun c => absurd c h768) (fun _ => vk2) (fun _ c => absurd h25 c) (fun _ _ => vk) (fun _ _ c => take ?_) (fun _ _ c _ => keep ?_) (fun _ _ _ c => absurd sk_neg2 c) (fun _ _ _ c => absurd sk_neg2 c) (fun _ _ _ c => absurd sk_neg2 c) (fun _ _ _ c => absurd sk_neg2 c) (fun _ _ _ c => absurd sk_neg2 c)
          · unfold sk_sl; rw [hA]; simp only; rw [if_pos (lt5.mp c)]
          · unfold sk_sl; rw [hA]; simp only; rw [if_neg (fun z => c (lt5.mpr z))]
        | some c0 =>
          obtain ⟨z1, z2, z3, z4, z5, z6⟩ := hok.2 c0 hA
          have hx : x2 = nI (c0.1 * 32 + c0.2.2) := by have := hs.2; rw [hA] at this; exact this
          subst hx
          have lc : c0.2.1 < 24 := by
            have := (sk_Or_sm (by omega) (sk_Or_D hG b (23 - c0.1) c0.1 (by omega)) z3).2
            rw [z6] at this
            exact this
          have hl0 := (hD c0.1 z2 c0.2.2 z3).2
          rw [z6] at hl0
          have pos : ¬ nI (c0.1 * 32 + c0.2.2) < 0 := nI_nneg (by omega)
          have dv : nI (c0.1 * 32 + c0.2.2) / 32 = nI c0.1 := by rw [nI_div32 (by omega)]; congr 1; omega
          have lt7 : nI (c0.1 * 32 + c0.2.2) / 32 < nI k / 32 ↔ c0.1 < k / 32 := by rw [dv, dk, nI_ltI (by omega) (by omega)]
          have lt8 : hi1 24 (nI k).toNatClampNeg < hi1 24 (nI (c0.1 * 32 + c0.2.2)).toNatClampNeg ↔ (sk_D S b (k / 32) (k % 32)).2 < c0.2.1 := by
            rw [ck, r2, nI_clamp (by omega), hl0, nI_ltI (by omega) (by omega)]
          have sl : sk_sl (sk_D S b (k / 32) (k % 32)) (k / 32) (k % 32) A = if A.1 < (sk_D S b (k / 32) (k % 32)).1 ∨ (k / 32 = c0.1 ∧ (sk_D S b (k / 32) (k % 32)).1 = A.1 ∧ (sk_D S b (k / 32) (k % 32)).2 < c0.2.1) then ((sk_D S b (k / 32) (k % 32)).1, some (k / 32, (sk_D S b (k / 32) (k % 32)).2, k % 32)) else A := by
            unfold sk_sl; rw [hA]
          refine k_X9_traces_55 (fun c => absurd c h768) (fun c => absurd c h768) (fun c => absurd c h768) (fun c => absurd c h768) (fun _ => vk2) (fun _ c => absurd h25 c) (fun _ _ => vk) (fun _ _ c => take ?_) (fun _ _ _ c => absurd c pos) (fun _ _ c5 _ c6 => keep ?_) (fun _ _ c5 _ c6 c7 => keep ?_) (fun _ _ _ _ _ _ => vp_in_nI (by omega) (by decide)) (fun _ _ c5 _ c6 c7 c8 => take ?_) (fun _ _ c5 _ c6 c7 c8 => keep ?_)
          · rw [sl, if_pos (Or.inl (lt5.mp c))]
          · rw [lt5] at c5; rw [lt6] at c6
            rw [sl, if_neg (by rintro (z | z) <;> omega)]
          · rw [lt5] at c5; rw [lt7] at c7
            rw [sl, if_neg (by rintro (z | z) <;> omega)]
          · rw [lt5] at c5; rw [lt6] at c6; rw [lt7] at c7; rw [lt8] at c8
            rw [sl, if_pos (Or.inr ⟨by omega, by omega, c8⟩)]
          · rw [lt5] at c5; rw [lt8] at c8
            rw [sl, if_neg (by rintro (z | z) <;> omega)]
  have loop : ∀ n (hi1 : Nat → Nat → Int32), n ≤ 24 → sk_FT hi hi1 → hi1 20 5 = 0 → (∀ t, n ≤ t → t < 24 → sk_RR hi1 t (sk_D S b t)) → (∀ t, n ≤ t → t < 24 → hi1 25 t = if sk_bar S b t = true then 1 else 0) → sk_Go Γ (sk_M Γ m_X9_traces Q) (0, 0) 8 [some (.ref 20), some (.int (nI b)), some (.int (sI ((n : Int) - 1))), none, none] [] (sk_h hi1 rr ex) := by
    intro n
    induction n with
    | zero =>
      intro hi1 hn ho h5 hD hB
      refine k_X9_traces_8 (fun _ => ?_) (fun c => absurd sI_neg c)
      refine scan 768 0 hi1 (-1) (by omega) ho (fun t ht => hD t (Nat.zero_le t) ht) (fun t ht => hB t (Nat.zero_le t) ht) ?_
      have : sk_ah S b (0 / 32) (0 % 32) = (0, none) := by
        show sk_ah S b 0 0 = _
        unfold sk_ah
        split <;> rfl
      rw [this]
      exact ⟨h5, rfl⟩
    | succ t ih =>
      intro hi1 hn ho h5 hD hB
      rw [sI_pos]
      have e := sk_D_eq S b (t := t) (by omega)
      have inner : ∀ n h (hi2 : Nat → Nat → Int32), h + n = 32 → sk_FT hi hi2 → hi2 20 5 = 0 → (∀ t', t ≤ t' → t' < 24 → hi2 25 t' = if sk_bar S b t' = true then 1 else 0) → (∀ t', t + 1 ≤ t' → t' < 24 → sk_RR hi2 t' (sk_D S b t')) → (∀ h', h' < h → hi2 23 (t * 32 + h') = sI (sk_D S b t h').1 ∧ hi2 24 (t * 32 + h') = nI (sk_D S b t h').2) → sk_Go Γ (sk_M Γ m_X9_traces Q) (0, 0) 26 [some (.ref 20), some (.int (nI b)), some (.int (nI t)), some (.int (nI h)), none] [] (sk_h hi2 rr ex) := by
        intro n
        induction n with
        | zero =>
          intro h hi2 hh ho2 h52 hB2 hD2 hr
          have : h = 32 := by omega
          subst this
          refine k_X9_traces_26 (fun _ => ?_) (fun c => absurd (nI_le (a := 32) (Nat.le_refl 32) (by decide)) c)
          rw [sI_m1]
          refine ih hi2 (by omega) ho2 h52 (fun t' h1 h2 => ?_) (fun t' h1 h2 => hB2 t' h1 h2)
          by_cases z : t' = t
          · subst z; exact hr
          · exact hD2 t' (by omega) h2
        | succ n ihn =>
          intro h hi2 hh ho2 h52 hB2 hD2 hr
          have hn : ¬ (32 : Int32) ≤ nI h := nI_ge (b := 32) (by omega) (by decide)
          refine k_X9_traces_26 (fun c => absurd c hn) (fun _ => ?_)
          refine c_settles (S := S) (f := sk_D S b (t + 1)) hG (sk_FT_R ho2 hR) hb (by omega) (by omega) (fun h1 => sk_Or_D hG b (23 - (t + 1)) (t + 1) (by omega)) (fun h1 => hD2 (t + 1) (Nat.le_refl _) h1) (hB2 t (Nat.le_refl _) (by omega)) (k_X9_traces_39 ?_)
          rw [← e, nI_1]
          refine ihn (h + 1) _ (by omega) (fun p hp => by rw [sk_wi_o _ _ _ (by omega), sk_wi_o _ _ _ (by omega), ho2 p hp]) (by rw [sk_wi_o _ _ _ (by decide), sk_wi_o _ _ _ (by decide)]; exact h52) (fun t' h1 h2 => by rw [sk_wi_o _ _ _ (by decide), sk_wi_o _ _ _ (by decide)]; exact hB2 t' h1 h2) (fun t' h1 h2 h' hh' => ?_) (fun h' hh' => ?_)
          · rw [sk_wi_o _ _ _ (show (23 : Nat) ≠ 24 by decide), sk_wi_ne _ _ (by omega), sk_wi_ne _ _ (by omega), sk_wi_o _ _ _ (show (24 : Nat) ≠ 23 by decide)]
            exact hD2 t' h1 h2 h' hh'
          · by_cases z : h' = h
            · subst z
              rw [sk_wi_o _ _ _ (show (23 : Nat) ≠ 24 by decide), sk_wi_self, sk_wi_self]
              exact ⟨rfl, rfl⟩
            · rw [sk_wi_o _ _ _ (show (23 : Nat) ≠ 24 by decide), sk_wi_ne _ _ (by omega), sk_wi_ne _ _ (by omega), sk_wi_o _ _ _ (show (24 : Nat) ≠ 23 by decide)]
              exact hr h' (by omega)
      have cont : ∀ x : Int32, (x = if sk_bar S b t = true then 1 else 0) → sk_Go Γ (sk_M Γ m_X9_traces Q) (0, 0) 26 [some (.ref 20), some (.int (nI b)), some (.int (nI t)), some (.int 0), none] [] (sk_h (sk_wi hi1 25 (nI t).toNatClampNeg x) rr ex) := fun x hx => by
        rw [nI_clamp (by omega)]
        refine inner 32 0 _ (by omega) (fun p hp => by rw [sk_wi_o _ _ _ (by omega), ho p hp]) (by rw [sk_wi_o _ _ _ (by decide)]; exact h5) (fun t' h1 h2 => ?_) (fun t' h1 h2 h' hh' => by rw [sk_wi_o _ _ _ (by decide), sk_wi_o _ _ _ (by decide)]; exact hD t' h1 h2 h' hh') (fun h' hh' => by omega)
        by_cases z : t' = t
        · subst z; rw [sk_wi_self]; exact hx
        · rw [sk_wi_ne _ _ z]; exact hB t' (by omega) h2
      refine k_X9_traces_8 (fun c => absurd c (nI_nneg (by omega))) (fun _ => c_rBarred hG (sk_FT_R ho hR) hb (by omega) (fun p => k_X9_traces_23 (vp_in_nI (by omega) (by decide)) rfl (cont 1 ?_)) (fun p => k_X9_traces_23 (vp_in_nI (by omega) (by decide)) rfl (cont 0 ?_)))
      · rw [if_pos p]
      · rw [if_neg (by rw [p]; decide)]
  exact loop 24 _ (Nat.le_refl _) (fun p hp => by rw [sk_wi_o _ _ _ (by omega)]) (sk_wi_self _ _ _ _) (fun t h1 h2 => by omega) (fun t h1 h2 => by omega)
/-- the letter of a trace that ends at e -/
def sk_tlt (S : sk_S) (b e : Nat) : Nat := if e = 23 ∨ sk_bar S b (e + 1) = true then 1 else 0
theorem c_rletter {b e : Nat} (hG : sk_G S) (hR : sk_R0 hi S) (hb : b < 4) (he : e ≤ 23) (h7 : hi 20 7 = nI e) (q : Q (some (.int (nI (sk_tlt S b e)))) (sk_h hi rr ex)) : sk_Ct Γ m_X9_letter [.ref 20, .int (nI b)] (sk_h hi rr ex) Q := by
  unfold sk_tlt at q
  have h23 : hi 20 7 = 23 ↔ e = 23 := by rw [h7]; exact nI_eq (b := 23) (by omega) (by decide)
  refine sk_Ct.of ok_X9_letter.2.2.2 (Nat.le_of_ble_eq_true rfl) (k_X9_letter_0 (fun c => ?_) (fun c => ?_))
  · rw [if_pos (Or.inl (h23.mp c))] at q
    exact q
  · rw [h23] at c
    rw [h7, nI_1]
    refine c_rBarred hG hR hb (by omega) (fun p => k_X9_letter_20 (fun c => absurd c sk_n10) (fun _ => ?_)) (fun p => k_X9_letter_20 (fun _ => ?_) (fun c => absurd rfl c))
    · rw [if_pos (Or.inr p)] at q
      exact q
    · rw [if_neg (by rintro (z | z); exact c z; rw [p] at z; cases z)] at q
      exact q
end RTRACE2
