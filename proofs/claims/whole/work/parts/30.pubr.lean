section PUBR
variable {Γ : sk_Cx} {Q : Option Value → sk_Hp → Prop} {rr : Nat → Nat → Option Nat} {ex : List (Nat × Nat)} {hi : Nat → Nat → Int32} {S : sk_S}
/-- only the reference's own tables of a trace and its steps have changed -/
def sk_FQ (hi hi' : Nat → Nat → Int32) : Prop := ∀ p, (p < 20 ∨ p = 21 ∨ p = 22 ∨ 27 < p) → hi' p = hi p
theorem sk_FT_FQ {hi' : Nat → Nat → Int32} (h : sk_FT hi hi') : sk_FQ hi hi' := fun p hp => h p (by omega)
theorem sk_FQ_R {hi' : Nat → Nat → Int32} (h : sk_FQ hi hi') (hR : sk_R0 hi S) : sk_R0 hi' S := by
  show sk_R (hi' 21) 0 S
  rw [h 21 (by omega)]
  exact hR
theorem sk_FQ_FR {hi' : Nat → Nat → Int32} (h : sk_FQ hi hi') : sk_FR hi hi' := ⟨fun a ha => h a (by omega), h 22 (by omega), fun j _ => by rw [h 21 (by omega)]⟩
theorem cm_trace {x1 x2 : Int32} (hG : sk_G S) (hR : sk_R0 hi S) (q : ∀ hi', sk_FQ hi hi' → Q (some (.int (vl_trace S x1 x2))) (sk_h hi' rr ex)) : sk_Ct Γ m_X9_trace [.ref 20, .int x1, .int x2] (sk_h hi rr ex) Q := by
  refine sk_Ct.of ok_X9_trace.2.2.2 (Nat.le_of_ble_eq_true rfl) (k_X9_trace_0 (c_X9_isBoard (fun z1 => k_X9_trace_4 (fun c => absurd c sk_n10) (fun _ => ?_)) (fun z => k_X9_trace_4 (fun _ => ?_) (fun c => absurd rfl c))))
  · obtain ⟨b, b0, b1, hx⟩ := z1
    subst hx
    have hb : b < 4 := by omega
    refine c_X9_isIn (l := 0) (u := 3) (by decide) (by decide) (by decide) (by decide) (fun z2 => k_X9_trace_13 (fun c => absurd c sk_n10) (fun _ => ?_)) (fun z => k_X9_trace_13 (fun _ => ?_) (fun c => absurd rfl c))
    · refine c_traces hG hR hb (fun c hi' hc hF ho => ?_) (fun hi' hc ho => ?_)
      · obtain ⟨f0, f1, f2, f3⟩ := hF
        obtain ⟨t1, t2, t3, t4, t5, t6, t7⟩ := sk_T_ok hG hc
        have q' := q hi' (sk_FT_FQ ho)
        rw [sk_vt_s hb hc] at q'
        refine k_X9_trace_21 (fun _ w0 w1 w2 => ?_) (fun _ w0 w1 w2 => ?_) (fun _ w0 w1 => ?_) (fun _ w0 => ?_) (fun c => absurd c sk_n10)
        · have w3 : x2 = 3 := by
            obtain ⟨j, j0, j1, hj⟩ := z2
            subst hj
            match j, j1 with
            | 0, _ => exact absurd rfl w0
            | 1, _ => exact absurd rfl w1
            | 2, _ => exact absurd rfl w2
            | 3, _ => rfl
            | n + 4, h => omega
          rw [if_neg w0, if_neg w1, if_neg w2, if_pos w3] at q'
          exact c_rletter hG (sk_FT_R ho hR) hb t7 f2 (k_X9_trace_66 q')
        · rw [if_neg w0, if_neg w1, if_pos w2] at q'
          rw [f2]
          exact k_X9_trace_66 q'
        · rw [if_neg w0, if_pos w1] at q'
          rw [f1]
          exact k_X9_trace_66 q'
        · rw [if_pos w0] at q'
          rw [f0]
          exact k_X9_trace_66 q'
      · have q' := q hi' (sk_FT_FQ ho)
        rw [sk_vt_n (fun b' hb' hx => by have : b = b' := (nI_eq (by omega) (by omega)).mp hx; subst this; exact hc)] at q'
        exact k_X9_trace_21 (fun c => absurd rfl c) (fun c => absurd rfl c) (fun c => absurd rfl c) (fun c => absurd rfl c) (fun _ => q')
    · have q' := q hi (fun _ _ => rfl)
      have : vl_trace S (nI b) x2 = -1 := by
        cases hc : (sk_T S b).2 with
        | none => exact sk_vt_n (fun b' hb' hx => by have : b = b' := (nI_eq (by omega) (by omega)).mp hx; subst this; exact hc)
        | some c =>
          rw [sk_vt_s hb hc, if_neg (show ¬ x2 = 0 from fun w => z ⟨0, by decide, by decide, w⟩), if_neg (show ¬ x2 = 1 from fun w => z ⟨1, by decide, by decide, w⟩), if_neg (show ¬ x2 = 2 from fun w => z ⟨2, by decide, by decide, w⟩), if_neg (show ¬ x2 = 3 from fun w => z ⟨3, by decide, by decide, w⟩)]
      rw [this] at q'
      exact q'
  · have q' := q hi (fun _ _ => rfl)
    rw [sk_vt_n (fun b hb hx => absurd ⟨b, by omega, by omega, hx⟩ z)] at q'
    exact q'
theorem cm_height {x1 x2 : Int32} (hG : sk_G S) (hR : sk_R0 hi S) (q : ∀ hi', sk_FQ hi hi' → Q (some (.int (vl_height S x1 x2))) (sk_h hi' rr ex)) : sk_Ct Γ m_X9_height [.ref 20, .int x1, .int x2] (sk_h hi rr ex) Q := by
  refine sk_Ct.of ok_X9_height.2.2.2 (Nat.le_of_ble_eq_true rfl) (k_X9_height_0 (c_X9_isBoard (fun z1 => k_X9_height_4 (fun c => absurd c sk_n10) (fun _ => ?_)) (fun z => k_X9_height_4 (fun _ => ?_) (fun c => absurd rfl c))))
  · obtain ⟨b, b0, b1, hx⟩ := id z1
    subst hx
    have hb : b < 4 := by omega
    refine c_traces hG hR hb (fun c hi' hc hF ho => ?_) (fun hi' hc ho => ?_)
    · obtain ⟨f0, f1, f2, f3⟩ := hF
      obtain ⟨t1, t2, t3, t4, t5, t6, t7⟩ := sk_T_ok hG hc
      have q' := q hi' (sk_FT_FQ ho)
      unfold vl_height sk_ha at q'
      rw [sk_if_t z1, sk_n_nI (by omega), hc] at q'
      simp only at q'
      refine k_X9_height_12 (fun c => absurd c sk_n10) (fun _ => ?_)
      rw [f1, f2]
      refine c_X9_isIn' (fun w1 w2 => k_X9_height_27 (fun c => absurd c sk_n10) (fun _ => ?_) (fun _ => ?_)) (fun w => k_X9_height_27 (fun _ => ?_) (fun c => absurd rfl c) (fun c => absurd rfl c))
      · obtain ⟨n, n1, n2, n3⟩ := sk_rg_of (by omega) (by omega) w1 w2
        subst n3
        exact vp_in_nI (by omega) (by decide)
      · rw [if_neg (by rintro (y | y); exact w1 y; exact w2 y)] at q'
        obtain ⟨n, n1, n2, n3⟩ := sk_rg_of (by omega) (by omega) w1 w2
        subst n3
        rw [nI_clamp (by omega)] at q' ⊢
        rw [show n = c.1 + (n - c.1) by omega, f3 _ (by omega)]
        exact q'
      · rw [if_pos (by by_cases y : x2 < nI c.1; exact Or.inl y; exact Or.inr (Decidable.not_not.mp (fun y2 => w ⟨y, y2⟩)))] at q'
        exact q'
    · have q' := q hi' (sk_FT_FQ ho)
      rw [sk_vh_n (fun b' hb' hx => by have : b = b' := (nI_eq (by omega) (by omega)).mp hx; subst this; exact hc)] at q'
      exact k_X9_height_12 (fun _ => q') (fun c => absurd rfl c)
  · have q' := q hi (fun _ _ => rfl)
    rw [sk_vh_n (fun b hb hx => absurd ⟨b, by omega, by omega, hx⟩ z)] at q'
    exact q'
theorem cm_undone {x1 : Int32} (hG : sk_G S) (hR : sk_R0 hi S) (q : ∀ hi' r, sp_undone S x1 r → sk_FQ hi hi' → Q (some (.int r)) (sk_h hi' rr ex)) : sk_Ct Γ m_X9_undone [.ref 20, .int x1] (sk_h hi rr ex) Q := by
  refine sk_Ct.of ok_X9_undone.2.2.2 (Nat.le_of_ble_eq_true rfl) (k_X9_undone_0 (c_X9_isBoard (fun z1 => k_X9_undone_4 (fun c => absurd c sk_n10) (fun _ => ?_)) (fun z => k_X9_undone_4 (fun _ => ?_) (fun c => absurd rfl c))))
  · obtain ⟨b, b0, b1, hx⟩ := id z1
    subst hx
    have hb : b < 4 := by omega
    refine c_traces hG hR hb (fun c hi' hc hF ho => ?_) (fun hi' hc ho => ?_)
    · refine k_X9_undone_12 (fun c => absurd c sk_n10) (fun _ => c_undoes hG hc hF (fun n hi2 hu o2 => k_X9_undone_19 (q hi2 _ (sp_undone_s hb hc hu) (fun p hp => ?_))))
      rw [o2 p (by omega), ho p (by omega)]
    · exact k_X9_undone_12 (fun _ => q hi' _ (sp_undone_n (fun b' hb' hx => by have : b = b' := (nI_eq (by omega) (by omega)).mp hx; subst this; exact hc)) (sk_FT_FQ ho)) (fun c => absurd rfl c)
  · exact q hi _ (sp_undone_n (fun b hb hx => absurd ⟨b, by omega, by omega, hx⟩ z)) (fun _ _ => rfl)
theorem sk_pv_out {n : Nat} {st : Nat → Int32} {x2 x3 : Int32} (z : ¬ sk_rg x3 0 2) : sk_pv n st x2 x3 = -1 := by
  unfold sk_pv
  by_cases w : ∃ i, i < n ∧ x2 = nI i
  · rw [sk_if_t w, if_neg (show ¬ x3 = 0 from fun w => z ⟨0, by decide, by decide, w⟩), if_neg (show ¬ x3 = 1 from fun w => z ⟨1, by decide, by decide, w⟩), if_neg (show ¬ x3 = 2 from fun w => z ⟨2, by decide, by decide, w⟩)]
  · rw [sk_if_f w]
theorem sk_Un_ex (ht : Nat → Int32) (len : Nat) : ∃ n st, n ≤ len ∧ sk_Un ht len st n := by
  have key : ∀ k, k ≤ len → (∃ n st, n ≤ len ∧ sk_Un ht len st n) ∨ ∃ st, ∀ i, i < k → st i = sk_sp ht st i ∧ 0 < st i := by
    intro k
    induction k with
    | zero => intro _; exact Or.inr ⟨fun _ => 0, fun i hi => by omega⟩
    | succ k ih =>
      intro hk
      rcases ih (by omega) with h | ⟨st, h⟩
      · exact Or.inl h
      · by_cases z : 0 < sk_sp ht st k
        · right
          have cg : ∀ m, m ≤ k → ∀ j, j < m → (fun j => if j = k then sk_sp ht st k else st j) j = st j := fun m hm j hj => if_neg (by omega)
          refine ⟨fun j => if j = k then sk_sp ht st k else st j, fun i hi => ?_⟩
          by_cases e : i = k
          · subst e
            rw [sk_sp_c (cg i (Nat.le_refl i))]
            simp only [if_pos]
            exact ⟨trivial, z⟩
          · rw [sk_sp_c (cg i (by omega))]
            simp only [if_neg e]
            exact h i (by omega)
        · exact Or.inl ⟨k, st, by omega, by omega, h, Or.inr z⟩
  rcases key len (Nat.le_refl _) with h | ⟨st, h⟩
  · exact h
  · exact ⟨len, st, Nat.le_refl _, Nat.le_refl _, h, Or.inl rfl⟩
theorem cm_place {x1 x2 x3 : Int32} (hG : sk_G S) (hR : sk_R0 hi S) (q : ∀ hi' r, sp_place S x1 x2 x3 r → sk_FQ hi hi' → Q (some (.int r)) (sk_h hi' rr ex)) : sk_Ct Γ m_X9_place [.ref 20, .int x1, .int x2, .int x3] (sk_h hi rr ex) Q := by
  refine sk_Ct.of ok_X9_place.2.2.2 (Nat.le_of_ble_eq_true rfl) (k_X9_place_0 (c_X9_isBoard (fun z1 => k_X9_place_4 (fun c => absurd c sk_n10) (fun _ => ?_)) (fun z => k_X9_place_4 (fun _ => ?_) (fun c => absurd rfl c))))
  · obtain ⟨b, b0, b1, hx⟩ := id z1
    subst hx
    have hb : b < 4 := by omega
    refine c_X9_isIn (l := 0) (u := 2) (by decide) (by decide) (by decide) (by decide) (fun z2 => k_X9_place_13 (fun c => absurd c sk_n10) (fun _ => ?_)) (fun z => k_X9_place_13 (fun _ => ?_) (fun c => absurd rfl c))
    · refine c_traces hG hR hb (fun c hi' hc hF ho => ?_) (fun hi' hc ho => ?_)
      · obtain ⟨t1, t2, t3, t4, t5, t6, t7⟩ := sk_T_ok hG hc
        refine k_X9_place_21 (fun c => absurd c sk_n10) (fun _ => c_undoes hG hc hF (fun n hi2 hu o2 => k_X9_place_30 ?_))
        have hn : n ≤ 24 := by have := hu.1; omega
        have q' := q hi2 _ (sp_place_s (x2 := x2) (x3 := x3) hb hn hc hu) (fun p hp => by rw [o2 p (by omega), ho p (by omega)])
        unfold sk_pv at q'
        refine c_X9_isIn' (fun w1 w2 => k_X9_place_35 (fun _ => ?_) (fun c => absurd c sk_n10)) (fun w => k_X9_place_35 (fun c => absurd rfl c) (fun _ => ?_))
        · have w := (sk_pin hn).mp ⟨w1, w2⟩
          rw [sk_if_t w] at q'
          obtain ⟨i, hi, hx⟩ := w
          subst hx
          rw [sk_n_nI (by omega)] at q'
          have loop : ∀ m j, j + m = i + 1 → sk_Go Γ (sk_M Γ m_X9_place Q) (0, 0) 49 [some (.ref 20), some (.int (nI b)), some (.int (nI i)), some (.int x3), some (.int (sk_sum (hi2 27) j)), some (.int (sk_ws (hi2 27) i j)), some (.int (nI j))] [] (sk_h hi2 rr ex) := by
            intro m
            induction m with
            | zero =>
              intro j hj
              have : j = i + 1 := by omega
              subst this
              have hl : nI i < nI (i + 1) := (nI_ltI (by omega) (by omega)).mpr (by omega)
              refine k_X9_place_49 (fun _ w0 w1 => ?_) (fun _ w0 w1 => ?_) (fun _ _ => vp_in_nI (by omega) (by decide)) (fun _ w0 => ?_) (fun c => absurd hl c) (fun c => absurd hl c)
              · have w2 : x3 = 2 := by
                  obtain ⟨j, j0, j1, hj⟩ := z2
                  subst hj
                  match j, j1 with
                  | 0, _ => exact absurd rfl w0
                  | 1, _ => exact absurd rfl w1
                  | 2, _ => rfl
                  | n + 3, h => omega
                rw [if_neg w0, if_neg w1, if_pos w2] at q'
                exact q'
              · rw [if_neg w0, if_pos w1] at q'
                exact q'
              · rw [if_pos w0] at q'
                rw [nI_clamp (by omega)]
                exact q'
            | succ m ih =>
              intro j hj
              have hl : ¬ nI i < nI j := nI_nlt (by omega) (by omega)
              refine k_X9_place_49 (fun c => absurd c hl) (fun c => absurd c hl) (fun c => absurd c hl) (fun c => absurd c hl) (fun _ => vp_in_nI (by omega) (by decide)) (fun _ => c_by (by omega) (k_X9_place_75 (vp_in_nI (by omega) (by decide)) ?_))
              rw [nI_clamp (by omega), nI_1]
              exact ih (j + 1) (by omega)
          exact loop (i + 1) 0 (by omega)
        · rw [sk_if_f (fun z => w ((sk_pin hn).mpr z))] at q'
          exact q'
      · exact k_X9_place_21 (fun _ => q hi' _ (sp_place_n (fun b' hb' hx => by have : b = b' := (nI_eq (by omega) (by omega)).mp hx; subst this; exact hc)) (sk_FT_FQ ho)) (fun c => absurd rfl c)
    · refine q hi (-1) ?_ (fun _ _ => rfl)
      cases hc : (sk_T S b).2 with
      | none => exact sp_place_n (fun b' hb' hx => by have : b = b' := (nI_eq (by omega) (by omega)).mp hx; subst this; exact hc)
      | some c =>
        obtain ⟨t1, t2, t3, t4, t5, t6, t7⟩ := sk_T_ok hG hc
        obtain ⟨n, st, hn, hu⟩ := sk_Un_ex (sk_ht S b c) (c.2.1 - c.1 + 1)
        have := sp_place_s (x2 := x2) (x3 := x3) hb (by omega) hc hu
        rw [sk_pv_out z] at this
        exact this
  · exact q hi _ (sp_place_n (fun b hb hx => absurd ⟨b, by omega, by omega, hx⟩ z)) (fun _ _ => rfl)
end PUBR
