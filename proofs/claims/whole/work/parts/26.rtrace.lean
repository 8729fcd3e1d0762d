section RTRACE
variable {Γ : sk_Cx} {Q : Option Value → sk_Hp → Prop} {rr : Nat → Nat → Option Nat} {ex : List (Nat × Nat)} {hi : Nat → Nat → Int32} {S : sk_S}
theorem sk_rpl (t h : Nat) : 32 * nI t + nI h = nI (t * 32 + h) := by
  rw [Int32.mul_comm, sk_plx]
/-- a row of the reference's two tables -/
def sk_RR (hi : Nat → Nat → Int32) (t : Nat) (f : sk_Rw) : Prop := ∀ h, h < 32 → hi 23 (t * 32 + h) = sI (f h).1 ∧ hi 24 (t * 32 + h) = nI (f h).2
theorem c_on {t h to : Nat} {v : Int} (ht : t + 1 < 24) (hh : h < 32) (hto : to < 32) (hv : hi 23 ((t + 1) * 32 + to) = sI v) (q : Q (some (.int (sI (v - sk_ad to h)))) (sk_h hi rr ex)) : sk_Ct Γ m_X9_on [.ref 20, .int (nI t), .int (nI h), .int (nI to)] (sk_h hi rr ex) Q := by
  have e : 32 * (nI t + 1) + nI to = nI ((t + 1) * 32 + to) := by rw [nI_1, sk_rpl]
  refine sk_Ct.of ok_X9_on.2.2.2 (Nat.le_of_ble_eq_true rfl) (k_X9_on_0 (by rw [e]; exact vp_in_nI (by omega) (by decide)) (fun c => ?_) (fun c => ?_))
  · rw [nI_leI (by omega) (by omega)] at c
    rw [e, nI_clamp (by omega), hv, pk_sub c, sI_nI, sI_sub]
    have : sk_ad to h = to - h := by unfold sk_ad; omega
    rw [this] at q
    exact q
  · rw [nI_leI (by omega) (by omega)] at c
    rw [e, nI_clamp (by omega), hv, pk_sub (by omega), sI_nI, sI_sub]
    have : sk_ad to h = h - to := by unfold sk_ad; omega
    rw [this] at q
    exact q
theorem sk_low3 {h : Nat} (hh : h < 32) : (¬ (3 : Int32) ≤ nI h → h - 3 = 0) ∧ ((3 : Int32) ≤ nI h → nI h - 3 = nI (h - 3)) := by
  have e : (3 : Int32) ≤ nI h ↔ 3 ≤ h := nI_leI (a := 3) (by decide) (by omega)
  refine ⟨fun c => by rw [e] at c; omega, fun c => ?_⟩
  rw [e] at c
  exact pk_sub (b := 3) c
theorem c_settles {b t h : Nat} {f : sk_Rw} (hG : sk_G S) (hR : sk_R0 hi S) (hb : b < 4) (ht : t < 24) (hh : h < 32) (hf : t + 1 < 24 → sk_Or (t + 1) f) (hn : t + 1 < 24 → sk_RR hi (t + 1) f) (hx : hi 25 t = if sk_bar S b t = true then 1 else 0)
    (q : Q none (sk_h (sk_wi (sk_wi hi 23 (t * 32 + h) (sI (sk_rw (sk_bar S b t) t (sk_wo S b t) f h).1)) 24 (t * 32 + h) (nI (sk_rw (sk_bar S b t) t (sk_wo S b t) f h).2)) rr ex)) : sk_Ct Γ m_X9_settles [.ref 20, .int (nI b), .int (nI t), .int (nI h)] (sk_h hi rr ex) Q := by
  obtain ⟨n1, n2⟩ := sk_nr_ok hh
  obtain ⟨p1, p2⟩ := sk_top_nr hh
  have e1 : nI t + 1 = nI (t + 1) := nI_1 t
  have e2 : 32 * nI t + nI h = nI (t * 32 + h) := sk_rpl t h
  have vin : vp_in (nI (t * 32 + h)) 768 := vp_in_nI (by omega) (by decide)
  have ci : (nI (t * 32 + h)).toNatClampNeg = t * 32 + h := nI_clamp (by omega)
  obtain ⟨ac0, ac⟩ := sk_Ac_mo (bar := sk_bar S b t) ht hh hf
  have ac2 := sk_Ac_sm ht ⟨ac0, ac⟩
  have hle : (-500000 : Int32) ≤ sI (sk_mo (sk_bar S b t) t f h).1 ↔ ¬ (sk_mo (sk_bar S b t) t f h).1 = sk_no := by
    rw [show (-500000 : Int32) = sI (-500000) by decide, sI_le (by unfold sk_sm32; omega) (sk_Sm_32 ac2.1)]
    have := ac.1
    unfold sk_no at *
    omega
  have fin1 : ∀ x6 : Int32, (-500000 : Int32) ≤ sI (sk_mo (sk_bar S b t) t f h).1 → sk_Ct Γ m_X9_worth [.ref 20, .int (nI b), .int (nI t), .int (nI h)] (sk_h hi rr ex) (fun r h' => sk_Go Γ (sk_M Γ m_X9_settles Q) (0, 0) 157 [some (.ref 20), some (.int (nI b)), some (.int (nI t)), some (.int (nI h)), some (.int (sI (sk_mo (sk_bar S b t) t f h).1)), some (.int (nI (sk_mo (sk_bar S b t) t f h).2)), some (.int x6), none] (r.toList ++ [.int (sI (sk_mo (sk_bar S b t) t f h).1), .int (32 * nI t + nI h), .ref 23]) h') := fun x6 c => by
    rw [hle] at c
    have q2 := q
    rw [show (sk_rw (sk_bar S b t) t (sk_wo S b t) f h).1 = (sk_mo (sk_bar S b t) t f h).1 + sk_wo S b t h - 1 from if_neg c] at q2
    rw [e2]
    refine c_worth hG hR hb ht hh (k_X9_settles_157 vin (by rw [e2]; exact vin) ?_)
    rw [e2, ci, show (1 : Int32) = sI 1 by decide, sI_nI (sk_wo S b t h), sI_add, sI_sub]
    exact q2
  have fin2 : ¬ (-500000 : Int32) ≤ sI (sk_mo (sk_bar S b t) t f h).1 → Q none (sk_h (sk_wi (sk_wi hi 23 (32 * nI t + nI h).toNatClampNeg (-1000000)) 24 (32 * nI t + nI h).toNatClampNeg (nI (sk_mo (sk_bar S b t) t f h).2)) rr ex) := fun c => by
    rw [hle, Decidable.not_not] at c
    have q2 := q
    rw [show (sk_rw (sk_bar S b t) t (sk_wo S b t) f h).1 = sk_no from if_pos c] at q2
    rw [e2, ci, sk_nox]
    exact q2
  have v3 : vp_in (32 * nI t + nI h) 768 := by rw [e2]; exact vin
  have i24 : (24 : Int32) ≤ nI t + 1 ↔ ¬ t + 1 < 24 := by
    rw [e1]
    have := nI_leI (a := 24) (b := t + 1) (by decide) (by omega)
    exact ⟨fun z => by have := this.mp z; omega, fun z => this.mpr (by omega)⟩
  have e3 : nI h + 3 = nI (h + 3) := nI_add h 3
  have loop : t + 1 < 24 → ∀ n i, i + n = sk_nr h → sk_Go Γ (sk_M Γ m_X9_settles Q) (0, 0) 34 [some (.ref 20), some (.int (nI b)), some (.int (nI t)), some (.int (nI h)), some (.int (sI (sk_fd f h (sk_in0 (sk_bar S b t) t) (h - 3) i).1)), some (.int (nI (sk_fd f h (sk_in0 (sk_bar S b t) t) (h - 3) i).2)), some (.int (nI (h - 3 + i))), none] [] (sk_h hi rr ex) := by
    intro ht1 n
    have c24 : ¬ (24 : Int32) ≤ nI t + 1 := fun z => i24.mp z ht1
    induction n with
    | zero =>
      intro i hi0
      have ei : i = sk_nr h := by omega
      have emo : sk_fd f h (sk_in0 (sk_bar S b t) t) (h - 3) i = sk_mo (sk_bar S b t) t f h := by
        unfold sk_mo; rw [if_pos ht1, ei]
      rw [emo]
      refine k_X9_settles_34 (fun c => absurd c c24) (fun c => absurd c c24) (fun c => absurd c c24) (fun _ _ => fin1 _) (fun _ _ _ => v3) (fun _ _ => fin2) (fun _ _ _ => fin1 _) (fun _ _ _ _ => v3) (fun _ _ _ => fin2) (fun _ c1 c2 => ?_)
      exfalso
      rw [e3, nI_ltI (by omega) (by omega)] at c1
      have := nI_leI (a := 32) (b := h - 3 + i) (by decide) (by omega)
      have c2 : ¬ 32 ≤ h - 3 + i := fun z => c2 (this.mpr z)
      unfold sk_top at p1
      split at p1 <;> omega
    | succ n ih =>
      intro i hi0
      have hto : h - 3 + i < 32 := by omega
      have d1 : ¬ nI h + 3 < nI (h - 3 + i) := by
        rw [e3, nI_ltI (by omega) (by omega)]
        unfold sk_top at p1
        split at p1 <;> omega
      have d2 : ¬ (32 : Int32) ≤ nI (h - 3 + i) := nI_ge (b := 32) (by omega) (by decide)
      obtain ⟨r1, r2⟩ := hn ht1 _ hto
      have had := n2 i (by omega)
      obtain ⟨f1, f2, f3⟩ := hf ht1 _ hto
      have nx := ih (i + 1) (by omega)
      have acc := sk_Ac_fd (h := h) (lo := h - 3) ht1 (hf ht1) (sk_Ac_0 ht (sk_bar S b t)) i (by omega) (fun j hj => n2 j (by omega))
      rw [show sk_fd f h (sk_in0 (sk_bar S b t) t) (h - 3) (i + 1) = sk_stp f h (sk_fd f h (sk_in0 (sk_bar S b t) t) (h - 3) i) (h - 3 + i) from rfl] at nx
      generalize sk_fd f h (sk_in0 (sk_bar S b t) t) (h - 3) i = A at nx acc ⊢
      obtain ⟨a0, a1, a2, a3⟩ := acc
      have acs := (sk_Ac_sm ht ⟨a0, a1, a2, a3⟩).1
      have e4 : 32 * (nI t + 1) + nI (h - 3 + i) = nI ((t + 1) * 32 + (h - 3 + i)) := by rw [e1, sk_rpl]
      have e5 : nI (h - 3 + i) + 1 = nI (h - 3 + (i + 1)) := nI_1 _
      have v4 : vp_in (32 * (nI t + 1) + nI (h - 3 + i)) 768 := by rw [e4]; exact vp_in_nI (by omega) (by decide)
      have ci4 : (nI ((t + 1) * 32 + (h - 3 + i))).toNatClampNeg = (t + 1) * 32 + (h - 3 + i) := nI_clamp (by omega)
      have hno : A.1 = sk_no → A.2 = t := fun z => by rw [a0 z]; rfl
      have v32 : sk_sm32 ((f (h - 3 + i)).1 - sk_ad (h - 3 + i) h) := by
        unfold sk_sm32
        unfold sk_no at *
        omega
      have stp : sk_stp f h A (h - 3 + i) = if A.1 < (f (h - 3 + i)).1 - sk_ad (h - 3 + i) h ∨ ((f (h - 3 + i)).1 - sk_ad (h - 3 + i) h = A.1 ∧ (f (h - 3 + i)).2 < A.2) then ((f (h - 3 + i)).1 - (sk_ad (h - 3 + i) h : Int), (f (h - 3 + i)).2) else A := by
        unfold sk_stp
        by_cases z : (f (h - 3 + i)).1 = sk_no
        · rw [if_pos z, if_neg]
          rintro (w | w)
          · rw [z] at w
            unfold sk_no at *
            omega
          · rw [z] at w
            by_cases z2 : A.1 = sk_no
            · have := hno z2
              omega
            · unfold sk_no at *
              omega
        · rw [if_neg z]
      rw [stp] at nx
      refine k_X9_settles_34 (fun c => absurd c c24) (fun c => absurd c c24) (fun c => absurd c c24) (fun _ c => absurd c d1) (fun _ c => absurd c d1) (fun _ c => absurd c d1) (fun _ _ c => absurd c d2) (fun _ _ c => absurd c d2) (fun _ _ c => absurd c d2) (fun _ _ _ => ?_)
      refine c_on ht1 hh hto r1 (k_X9_settles_65 (fun _ => v4) (fun c => ?_) (fun c0 c => ?_) (fun _ _ => v4) (fun c0 c1 c => ?_) (fun c0 c1 c => ?_))
      · rw [sI_lt (sk_Sm_32 acs) v32] at c
        rw [if_pos (Or.inl c)] at nx
        rw [e4, ci4, r2, e5]
        exact nx
      · rw [sI_lt (sk_Sm_32 acs) v32] at c0
        rw [sI_eq v32 (sk_Sm_32 acs)] at c
        rw [if_neg (by rintro (z | z); exact c0 z; exact c z.1)] at nx
        rw [e5]
        exact nx
      · rw [sI_lt (sk_Sm_32 acs) v32] at c0
        rw [e4, ci4, r2, nI_leI (by omega) (by omega)] at c
        rw [if_neg (by rintro (z | z); exact c0 z; omega)] at nx
        rw [e5]
        exact nx
      · rw [sI_lt (sk_Sm_32 acs) v32] at c0
        rw [sI_eq v32 (sk_Sm_32 acs)] at c1
        rw [e4, ci4, r2, nI_leI (by omega) (by omega)] at c
        rw [if_pos (Or.inr ⟨c1, by omega⟩)] at nx
        rw [e4, ci4, r2, e5]
        exact nx
  have ct : (nI t).toNatClampNeg = t := nI_clamp (by omega)
  obtain ⟨l1, l2⟩ := sk_low3 hh
  have start : ∀ x4 x6 : Int32, x4 = sI (sk_in0 (sk_bar S b t) t).1 → x6 = nI (h - 3) → sk_Go Γ (sk_M Γ m_X9_settles Q) (0, 0) 34 [some (.ref 20), some (.int (nI b)), some (.int (nI t)), some (.int (nI h)), some (.int x4), some (.int (nI t)), some (.int x6), none] [] (sk_h hi rr ex) := by
    intro x4 x6 h4 h6
    subst h4; subst h6
    by_cases ht1 : t + 1 < 24
    · exact loop ht1 (sk_nr h) 0 (by omega)
    · have emo : sk_mo (sk_bar S b t) t f h = sk_in0 (sk_bar S b t) t := by unfold sk_mo; rw [if_neg ht1]
      rw [emo] at fin1 fin2
      exact k_X9_settles_34 (fun _ => fin1 _) (fun _ _ => v3) (fun _ => fin2) (fun c => absurd (i24.mpr ht1) c) (fun c => absurd (i24.mpr ht1) c) (fun c => absurd (i24.mpr ht1) c) (fun c => absurd (i24.mpr ht1) c) (fun c => absurd (i24.mpr ht1) c) (fun c => absurd (i24.mpr ht1) c) (fun c => absurd (i24.mpr ht1) c)
  refine sk_Ct.of ok_X9_settles.2.2.2 (Nat.le_of_ble_eq_true rfl) ?_
  have b0 : hi 25 t = 0 → sI (sk_in0 (sk_bar S b t) t).1 = 0 := fun z => by
    unfold sk_in0
    cases hb2 : sk_bar S b t with
    | true => rw [hx, hb2, if_pos rfl] at z; exact absurd z sk_n10
    | false => rfl
  have b1 : ¬ hi 25 t = 0 → sI (sk_in0 (sk_bar S b t) t).1 = -1000000 := fun z => by
    unfold sk_in0
    cases hb2 : sk_bar S b t with
    | false => rw [hx, hb2, if_neg (by decide)] at z; exact absurd rfl z
    | true => rw [sk_nox]; rfl
  refine k_X9_settles_0 (vp_in_nI ht (by decide)) (fun c d => ?_) (fun c d => ?_) (fun c d => ?_) (fun c d => ?_)
  · rw [ct] at c; exact start _ _ (b0 c).symm (l2 d)
  · rw [ct] at c; exact start _ _ (b0 c).symm (by rw [l1 d]; rfl)
  · rw [ct] at c; exact start _ _ (b1 c).symm (l2 d)
  · rw [ct] at c; exact start _ _ (b1 c).symm (by rw [l1 d]; rfl)
theorem c_rnext {b t h e i : Nat} (hG : sk_G S) (hR : sk_R0 hi S) (hb : b < 4) (ht : t + 1 < 24) (hh : h < 32) (he : e < 24) (hD : ∀ t, t < 24 → sk_RR hi t (sk_D S b t)) (h7 : hi 20 7 = nI e) (hsm : sk_Sm ((sk_D S b t h).1 + 1 - sk_wo S b t h)) (hf : sk_ff (sk_nx S b t h e) (sk_nr h) = some i) (q : Q (some (.int (nI (h - 3 + i)))) (sk_h hi rr ex)) : sk_Ct Γ m_X9_next [.ref 20, .int (nI b), .int (nI t), .int (nI h)] (sk_h hi rr ex) Q := by
  obtain ⟨n1, n2⟩ := sk_nr_ok hh
  have ilt := sk_ff_lt hf
  have e2 : 32 * nI t + nI h = nI (t * 32 + h) := sk_rpl t h
  have loop : ∀ n j, j + n = sk_nr h → sk_ff (sk_nx S b t h e) j = none → sk_Go Γ (sk_M Γ m_X9_next Q) (0, 0) 37 [some (.ref 20), some (.int (nI b)), some (.int (nI t)), some (.int (nI h)), some (.int (sI ((sk_D S b t h).1 + 1 - sk_wo S b t h))), some (.int (nI (h - 3 + j)))] [] (sk_h hi rr ex) := by
    intro n
    induction n with
    | zero =>
      intro j hj hn
      have e1 : j = sk_nr h := by omega
      rw [e1, hf] at hn
      cases hn
    | succ n ih =>
      intro j hj hn
      obtain ⟨r1, r2⟩ := hD (t + 1) ht (h - 3 + j) (by omega)
      obtain ⟨f1, f2⟩ := sk_Or_sm (by omega) (sk_Or_D hG b (23 - (t + 1)) (t + 1) (by omega)) (show h - 3 + j < 32 by omega)
      have had := n2 j (by omega)
      have v32 : sk_sm32 ((sk_D S b (t + 1) (h - 3 + j)).1 - sk_ad (h - 3 + j) h) := by
        rcases f1 with f1 | f1
        · rw [f1]; unfold sk_sm32 sk_no; omega
        · unfold sk_sm32; omega
      have e4 : 32 * (nI t + 1) + nI (h - 3 + j) = nI ((t + 1) * 32 + (h - 3 + j)) := by rw [nI_1, sk_rpl]
      have v4 : vp_in (32 * (nI t + 1) + nI (h - 3 + j)) 768 := by rw [e4]; exact vp_in_nI (by omega) (by decide)
      have ci4 : (nI ((t + 1) * 32 + (h - 3 + j))).toNatClampNeg = (t + 1) * 32 + (h - 3 + j) := nI_clamp (by omega)
      have hl : hi 24 (32 * (nI t + 1) + nI (h - 3 + j)).toNatClampNeg = hi 20 7 ↔ (sk_D S b (t + 1) (h - 3 + j)).2 = e := by
        rw [e4, ci4, r2, h7, nI_eq (by omega) (by omega)]
      have e5 : nI (h - 3 + j) + 1 = nI (h - 3 + (j + 1)) := nI_1 _
      have go : ¬ sk_nx S b t h e j = true → sk_Go Γ (sk_M Γ m_X9_next Q) (0, 0) 37 [some (.ref 20), some (.int (nI b)), some (.int (nI t)), some (.int (nI h)), some (.int (sI ((sk_D S b t h).1 + 1 - sk_wo S b t h))), some (.int (nI (h - 3 + j) + 1))] [] (sk_h hi rr ex) := fun z => by
        rw [e5]
        refine ih (j + 1) (by omega) ?_
        unfold sk_ff
        rw [hn]
        simp only
        rw [if_neg z]
      refine k_X9_next_37 (c_on ht hh (by omega) r1 (k_X9_next_45 (fun c => go ?_) (fun _ => v4) (fun c0 c => ?_) (fun c0 c => go ?_)))
      · rw [sI_eq v32 (sk_Sm_32 hsm)] at c
        unfold sk_nx; simp only [decide_eq_true_eq]; exact fun z => c z.1
      · rw [sI_eq v32 (sk_Sm_32 hsm)] at c0
        have : sk_ff (sk_nx S b t h e) (sk_nr h) = some j := by
          refine sk_ff_up (m := j + 1) ?_ (by omega)
          unfold sk_ff
          rw [hn]
          simp only
          rw [if_pos (by unfold sk_nx; exact decide_eq_true ⟨c0, hl.mp c⟩)]
        rw [hf] at this
        cases this
        exact q
      · unfold sk_nx; simp only [decide_eq_true_eq]; exact fun z => c (hl.mpr z.2)
  refine sk_Ct.of ok_X9_next.2.2.2 (Nat.le_of_ble_eq_true rfl) (k_X9_next_0 (by rw [e2]; exact vp_in_nI (by omega) (by decide)) ?_)
  obtain ⟨l1, l2⟩ := sk_low3 hh
  have ed : sI (sk_D S b t h).1 - nI (sk_wo S b t h) + 1 = sI ((sk_D S b t h).1 + 1 - sk_wo S b t h) := by
    rw [show (1 : Int32) = sI 1 by decide, sI_nI, sI_sub, sI_add]
    congr 1
    omega
  refine c_worth hG hR hb (by omega) hh ?_
  rw [e2, nI_clamp (by omega), (hD t (by omega) h hh).1]
  refine k_X9_next_18 (fun c => ?_) (fun c => ?_)
  · rw [ed, l2 c]
    exact loop (sk_nr h) 0 (by omega) rfl
  · rw [ed]
    have := loop (sk_nr h) 0 (by omega) rfl
    rw [show h - 3 + 0 = 0 from l1 c] at this
    exact this
end RTRACE
