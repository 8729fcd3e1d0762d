section SCALE
variable {Γ : sk_Cx} {Q : Option Value → sk_Hp → Prop} {rr : Nat → Nat → Option Nat} {ex : List (Nat × Nat)} {hi : Nat → Nat → Int32} {S : sk_S}
/-- a trace does not hang on the table or the stations -/
theorem sk_dp_w (S : sk_S) (w) (b : Nat) : ∀ k, sk_dp (S.1, S.2.1, w) b k = sk_dp S b k
  | 0 => rfl
  | k + 1 => by
    show sk_rw _ _ _ (sk_dp (S.1, S.2.1, w) b k) = sk_rw _ _ _ (sk_dp S b k)
    rw [sk_dp_w S w b k]
    rfl
theorem sk_D_w (S : sk_S) (w) (b t : Nat) : sk_D (S.1, S.2.1, w) b t = sk_D S b t := sk_dp_w S w b _
theorem sk_sh_w (S : sk_S) (w) (b t : Nat) (a : sk_Se) : ∀ h, sk_sh (S.1, S.2.1, w) b t a h = sk_sh S b t a h
  | 0 => rfl
  | h + 1 => by
    show sk_sl (sk_D (S.1, S.2.1, w) b t h) t h (sk_sh (S.1, S.2.1, w) b t a h) = _
    rw [sk_sh_w S w b t a h, sk_D_w]
    rfl
theorem sk_se_w (S : sk_S) (w) (b : Nat) : ∀ t, sk_se (S.1, S.2.1, w) b t = sk_se S b t
  | 0 => rfl
  | t + 1 => by
    show (if sk_bar (S.1, S.2.1, w) b t = true then sk_se (S.1, S.2.1, w) b t else sk_sh (S.1, S.2.1, w) b t (sk_se (S.1, S.2.1, w) b t) 32) = _
    rw [sk_se_w S w b t, sk_sh_w]
    rfl
theorem sk_T_w (S : sk_S) (w) (b : Nat) : sk_T (S.1, S.2.1, w) b = sk_T S b := sk_se_w S w b 24
theorem sk_nx_w (S : sk_S) (w) (b t h e : Nat) : sk_nx (S.1, S.2.1, w) b t h e = sk_nx S b t h e := by
  unfold sk_nx
  funext i
  rw [sk_D_w S w b (t + 1), sk_D_w S w b t]
  rfl
theorem sk_pa_w (S : sk_S) (w) (b t0 e h0 : Nat) : ∀ i, sk_pa (S.1, S.2.1, w) b t0 e h0 i = sk_pa S b t0 e h0 i
  | 0 => rfl
  | i + 1 => by
    show sk_nh (S.1, S.2.1, w) b (t0 + i) (sk_pa (S.1, S.2.1, w) b t0 e h0 i) e = sk_nh S b (t0 + i) (sk_pa S b t0 e h0 i) e
    rw [sk_pa_w S w b t0 e h0 i]
    unfold sk_nh
    rw [sk_nx_w]
theorem sk_Ca_w {w} (h : sk_Ca hi S) : sk_Ca hi (S.1, S.2.1, w) := by
  rcases h with h | ⟨b, h1, h2, h3, h4⟩
  · exact Or.inl h
  · refine Or.inr ⟨b, h1, h2, ⟨?_, fun c hc i hi' => ?_⟩, fun c hc => ?_⟩
    · rw [sk_T_w]; exact h3.1
    · rw [sk_T_w] at hc
      rw [sk_pa_w]
      exact h3.2 c hc i hi'
    · rw [sk_T_w] at hc
      have e : sk_ht (S.1, S.2.1, w) b c = sk_ht S b c := by
        funext i
        unfold sk_ht
        rw [sk_pa_w]
      rw [e]
      exact h4 c hc
/-- what scale puts into the table -/
def sk_scv (S : sk_S) (b : Nat) : Option (Nat × Nat) := match (sk_T S b).2 with
  | none => none
  | some c => some (c.2.1 * 10, sk_tlt S b c.2.1)
def sk_us (S : sk_S) (x1 x2 x3 : Int32) : sk_S := (S.1, S.2.1, sk_ut S.2.2.1 (sk_n x2 * 31 + sk_n x3) (sk_scv S (sk_n x1)), S.2.2.2)
def sk_Pscale (x1 x2 x3 : Int32) : Prop := sk_rg x1 0 3 ∧ sk_Pday x2 x3
theorem cx_scale {x1 x2 x3 : Int32} (hG : sk_G S) (hC : sk_Cn hi S) (hA : sk_Ca hi S) (q1 : sk_Pscale x1 x2 x3 → ∀ hi', sk_Cn hi' (sk_us S x1 x2 x3) → sk_Ca hi' (sk_us S x1 x2 x3) → (∀ a, 18 ≤ a → hi' a = hi a) → Q (some (.int 1)) (sk_h hi' rr ex)) (q0 : ¬ sk_Pscale x1 x2 x3 → Q (some (.int 0)) (sk_h hi rr ex)) : sk_Ct Γ m_X8_scale [.ref 0, .int x1, .int x2, .int x3] (sk_h hi rr ex) Q := by
  refine sk_Ct.of ok_X8_scale.2.2.2 (Nat.le_of_ble_eq_true rfl) (k_X8_scale_0 (c_X8_isBoard (fun z1 => k_X8_scale_4 (fun c => absurd c sk_n10) (fun _ => c_X8_isDay (fun z2 z3 => k_X8_scale_12 (fun _ => ?_) (fun c => absurd c sk_n10)) (fun z => k_X8_scale_12 (fun c => absurd rfl c) (fun _ => q0 (fun w => z w.2))))) (fun z => k_X8_scale_4 (fun _ => q0 (fun w => z w.1)) (fun c => absurd rfl c))))
  obtain ⟨e2, a2, b2⟩ := sk_rg_n z2 (by decide)
  obtain ⟨e3, a3, b3⟩ := sk_rg_n z3 (by decide)
  have put : ∀ (hi' : Nat → Nat → Int32) (v : Int32), sk_Ca hi' S → sk_FH hi hi' → v = sk_tc (sk_scv S (sk_n x1)) → Q (some (.int 1)) (sk_h (sk_wi hi' 6 (sk_n x2 * 31 + sk_n x3) v) rr ex) := fun hi' v hA' ho hv => by
    refine q1 ⟨z1, z2, z3⟩ _ (sk_Cn_t (sk_FH_Cn ho hC) (fun k hk => ?_) (fun a ha => sk_wi_o _ _ _ ha)) (sk_Ca_w (sk_Ca_o hA' (by rw [sk_wi_o _ _ _ (by decide)]) (fun p p1 p2 => sk_wi_o _ _ _ (by omega)))) (fun a ha => by rw [sk_wi_o _ _ _ (by omega), ho a (by omega)])
    rw [sk_wi_if]
    unfold sk_ut
    by_cases hc : k = sk_n x2 * 31 + sk_n x3
    · rw [if_pos hc, if_pos hc]; exact hv
    · rw [if_neg hc, if_neg hc]; exact (sk_FH_Cn ho hC).2.2.2.1 k hk
  refine c_hasTrace hG hC hA (fun hi' b c hb hx hc hF hU hA' ho => ?_) (fun hi' hn hA' ho => ?_)
  · subst hx
    have hs := hF.1.2
    rw [hc] at hs
    obtain ⟨t1, t2, t3, t4, t5, t6, t7⟩ := sk_T_ok hG hc
    refine k_X8_scale_22 (fun c => absurd c sk_n10) (fun _ => ?_)
    rw [hs.2.1]
    refine c_lastLetter (sk_FH_Cn ho hC) hb t7 hs.2.1 (k_X8_scale_49 ?_)
    rw [show nI c.2.1 * 10 = nI (c.2.1 * 10) from pk_mul c.2.1 10, show ([.ref 5, .int x2, .int x3, .int (nI (c.2.1 * 10)), .int (nI (sk_tlt S b c.2.1))] : List Value) = [.ref 5, .int (nI (sk_n x2)), .int (nI (sk_n x3)), .int (nI (c.2.1 * 10)), .int (nI (sk_tlt S b c.2.1))] by rw [← e2, ← e3]]
    refine c_put (by omega) (by omega) (k_X8_scale_52 (k_X8_scale_67 (put hi' _ hA' ho ?_)))
    unfold sk_scv
    rw [sk_n_nI (by omega), hc]
    rfl
  · refine k_X8_scale_22 (fun _ => ?_) (fun c => absurd rfl c)
    rw [show ([.ref 5, .int x2, .int x3] : List Value) = [.ref 5, .int (nI (sk_n x2)), .int (nI (sk_n x3))] by rw [← e2, ← e3]]
    refine c_drop (by omega) (by omega) (k_X8_scale_67 (put hi' _ hA' ho ?_))
    obtain ⟨e1, a1, b1⟩ := sk_rg_n z1 (by decide)
    unfold sk_scv
    rw [hn _ (by omega) e1]
    rfl
theorem cm_scale {x1 x2 x3 : Int32} (hG : sk_G S) (hR : sk_R0 hi S) (q1 : sk_Pscale x1 x2 x3 → ∀ hi', sk_R0 hi' (sk_us S x1 x2 x3) → sk_FR hi hi' → Q (some (.int 1)) (sk_h hi' rr ex)) (q0 : ¬ sk_Pscale x1 x2 x3 → Q (some (.int 0)) (sk_h hi rr ex)) : sk_Ct Γ m_X9_scale [.ref 20, .int x1, .int x2, .int x3] (sk_h hi rr ex) Q := by
  refine sk_Ct.of ok_X9_scale.2.2.2 (Nat.le_of_ble_eq_true rfl) (k_X9_scale_0 (c_X9_isBoard (fun z1 => k_X9_scale_4 (fun c => absurd c sk_n10) (fun _ => c_X9_isHour (fun z2 z3 => k_X9_scale_12 (fun _ => ?_) (fun c => absurd c sk_n10)) (fun z => k_X9_scale_12 (fun c => absurd rfl c) (fun _ => q0 (fun w => z w.2))))) (fun z => k_X9_scale_4 (fun _ => q0 (fun w => z w.1)) (fun c => absurd rfl c))))
  obtain ⟨e2, a2, b2⟩ := sk_rg_n z2 (by decide)
  obtain ⟨e3, a3, b3⟩ := sk_rg_n z3 (by decide)
  obtain ⟨b, b0, b1, hx⟩ := id z1
  subst hx
  have hb : b < 4 := by omega
  have fr : ∀ {hi1 hi2 : Nat → Nat → Int32}, sk_FR hi hi1 → sk_FR hi1 hi2 → sk_FR hi hi2 := fun h1 h2 => ⟨fun a ha => (h2.1 a ha).trans (h1.1 a ha), h2.2.1.trans h1.2.1, fun j hj => (h2.2.2 j hj).trans (h1.2.2 j hj)⟩
  have ev : sk_n (nI b) = b := sk_n_nI (by omega)
  refine c_traces hG hR hb (fun c hi' hc hF ho => ?_) (fun hi' hc ho => ?_)
  · obtain ⟨f0, f1, f2, f3⟩ := hF
    obtain ⟨t1, t2, t3, t4, t5, t6, t7⟩ := sk_T_ok hG hc
    refine k_X9_scale_22 (fun c => absurd c sk_n10) (fun _ => c_rletter hG (sk_FT_R ho hR) hb t7 f2 (k_X9_scale_40 ?_))
    rw [f2, show ([.ref 20, .int x2, .int x3, .int (10 * nI c.2.1), .int (nI (sk_tlt S b c.2.1))] : List Value) = [.ref 20, .int (nI (sk_n x2)), .int (nI (sk_n x3)), .int (10 * nI c.2.1), .int (nI (sk_tlt S b c.2.1))] by rw [← e2, ← e3]]
    refine c_sets (S := S) (o := sk_scv S b) hG (sk_FT_R ho hR) (by omega) (by omega) ?_ ?_ (fun hi2 r2 o2 _ => k_X9_scale_43 (k_X9_scale_54 (q1 ⟨z1, z2, z3⟩ hi2 ?_ (fr (sk_FT_FR ho) o2))))
    · unfold sk_scv
      rw [hc, Int32.mul_comm]
      exact pk_mul c.2.1 10
    · unfold sk_scv
      rw [hc]
      rfl
    · unfold sk_us
      rw [ev]
      exact r2
  · refine k_X9_scale_22 (fun _ => ?_) (fun c => absurd rfl c)
    rw [show ([.ref 20, .int x2, .int x3, .int (-1), .int 0] : List Value) = [.ref 20, .int (nI (sk_n x2)), .int (nI (sk_n x3)), .int (-1), .int 0] by rw [← e2, ← e3]]
    have ev2 : sk_scv S b = none := by unfold sk_scv; rw [hc]
    refine c_sets (S := S) (o := none) hG (sk_FT_R ho hR) (by omega) (by omega) rfl rfl (fun hi2 r2 o2 _ => k_X9_scale_54 (q1 ⟨z1, z2, z3⟩ hi2 ?_ (fr (sk_FT_FR ho) o2)))
    unfold sk_us
    rw [ev, ev2]
    exact r2
/-- the states that follow are good -/
theorem sk_G_us {x1 x2 x3 : Int32} (hG : sk_G S) (hp : sk_Pscale x1 x2 x3) : sk_G (sk_us S x1 x2 x3) := by
  obtain ⟨g1, g2, g3, g4, g5, g6, g7⟩ := hG
  refine ⟨g1, g2, g3, g4, fun k q h => ?_, g6, g7⟩
  have h : sk_ut S.2.2.1 (sk_n x2 * 31 + sk_n x3) (sk_scv S (sk_n x1)) k = some q := h
  unfold sk_ut at h
  split at h
  · unfold sk_scv at h
    cases hc : (sk_T S (sk_n x1)).2 with
    | none => rw [hc] at h; cases h
    | some c =>
      rw [hc] at h
      simp only at h
      cases h
      obtain ⟨t1, t2, t3, t4, t5, t6, t7⟩ := sk_T_ok ⟨g1, g2, g3, g4, g5, g6, g7⟩ hc
      refine ⟨by show c.2.1 * 10 ≤ 999; omega, ?_⟩
      show sk_tlt S (sk_n x1) c.2.1 ≤ 2
      unfold sk_tlt
      split <;> omega
  · exact g5 k q h
theorem sk_G_ut {x1 x2 : Int32} {o : Option (Nat × Nat)} (hG : sk_G S) (ho : ∀ q, o = some q → q.1 ≤ 999 ∧ q.2 ≤ 2) : sk_G (S.1, S.2.1, sk_ut S.2.2.1 (sk_n x1 * 31 + sk_n x2) o, S.2.2.2) := by
  obtain ⟨g1, g2, g3, g4, g5, g6, g7⟩ := hG
  refine ⟨g1, g2, g3, g4, fun k q h => ?_, g6, g7⟩
  have h : sk_ut S.2.2.1 (sk_n x1 * 31 + sk_n x2) o k = some q := h
  unfold sk_ut at h
  split at h
  · exact ho q h
  · exact g5 k q h
end SCALE
