/-- what middle answers -/
def sp_middle (S : sk_S) (x1 x2 r : Int32) : Prop := (¬ sk_rg x1 0 23 → r = -2) ∧ (sk_rg x1 0 23 → (x2 = 0 → sk_Mid S.2.2.1 (sk_n x1) 2 (-1) r) ∧ (x2 = 1 → sk_Mid S.2.2.1 (sk_n x1) 1 1000 r) ∧ (x2 = 2 → r = nI (sk_ct (sk_pr S.2.2.1 (sk_n x1)) 31)) ∧ (¬ x2 = 0 → ¬ x2 = 1 → ¬ x2 = 2 → r = -2))
theorem sp_middle_one {S : sk_S} {x1 x2 r r' : Int32} (a : sp_middle S x1 x2 r) (b : sp_middle S x1 x2 r') : r = r' := by
  by_cases h : sk_rg x1 0 23
  · have a := a.2 h
    have b := b.2 h
    by_cases h0 : x2 = 0
    · exact sk_Mid_one (a.1 h0) (b.1 h0)
    · by_cases h1 : x2 = 1
      · exact sk_Mid_one (a.2.1 h1) (b.2.1 h1)
      · by_cases h2 : x2 = 2
        · rw [a.2.2.1 h2, b.2.2.1 h2]
        · rw [a.2.2.2 h0 h1 h2, b.2.2.2 h0 h1 h2]
  · rw [a.1 h, b.1 h]
theorem sk_lit_ne {a b : Int32} (h : a.toInt ≠ b.toInt) : ¬ a = b := fun e => h (by rw [e])
theorem sk_ct_s (p : Nat → Bool) (n : Nat) : sk_ct p (n + 1) = sk_ct p n + if p n = true then 1 else 0 := rfl
section MID2
variable {Γ : sk_Cx} {Q : Option Value → sk_Hp → Prop} {rr : Nat → Nat → Option Nat} {ex : List (Nat × Nat)} {hi : Nat → Nat → Int32} {S : sk_S}
theorem cx_middle {x1 x2 : Int32} (hG : sk_G S) (hC : sk_Cn hi S) (q : ∀ hi' r, (∀ a, a ≠ 19 → hi' a = hi a) → sp_middle S x1 x2 r → Q (some (.int r)) (sk_h hi' rr ex)) : sk_Ct Γ m_X8_middle [.ref 0, .int x1, .int x2] (sk_h hi rr ex) Q := by
  refine sk_Ct.of ok_X8_middle.2.2.2 (Nat.le_of_ble_eq_true rfl) (k_X8_middle_0 (c_X8_within (l := 0) (u := 23) (by decide) (by decide) (by decide) (by decide) (fun z => ?_) (fun z => k_X8_middle_7 (fun c => absurd rfl c) (fun c => absurd rfl c) (fun c => absurd rfl c) (fun c => absurd rfl c) (fun _ => q hi _ (fun _ _ => rfl) ⟨fun _ => rfl, fun w => absurd w z⟩))))
  obtain ⟨e1, a1, b1⟩ := sk_rg_n z (by decide)
  refine k_X8_middle_7 (fun _ c => ?_) (fun _ c => ?_) (fun _ c => ?_) (fun _ c => ?_) (fun c => absurd c sk_n10)
  · exact q hi _ (fun _ _ => rfl) ⟨fun w => absurd z w, fun _ => ⟨fun w => absurd w (sk_out (u := 2) (by decide) c (j := 0) (by decide)), fun w => absurd w (sk_out (u := 2) (by decide) c (j := 1) (by decide)), fun w => absurd w (sk_out (u := 2) (by decide) c (j := 2) (by decide)), fun _ _ _ => rfl⟩⟩
  · subst c
    rw [show ([.ref 18, .ref 5, .int x1, .int 2, .int (-1)] : List Value) = [.ref 18, .ref 5, .int (nI (sk_n x1)), .int (nI 2), .int (-1)] by rw [← e1]; rfl]
    exact c_find hG hC (by omega) (by decide) (fun hi' r ho hm => k_X8_middle_57 (q hi' r ho ⟨fun w => absurd z w, fun _ => ⟨fun _ => hm, fun w => absurd w (by decide), fun w => absurd w (by decide), fun w => absurd rfl w⟩⟩))
  · subst c
    rw [show ([.ref 18, .ref 5, .int x1, .int 1, .int 1000] : List Value) = [.ref 18, .ref 5, .int (nI (sk_n x1)), .int (nI 1), .int 1000] by rw [← e1]; rfl]
    exact c_find hG hC (by omega) (by decide) (fun hi' r ho hm => k_X8_middle_77 (q hi' r ho ⟨fun w => absurd z w, fun _ => ⟨fun w => absurd w (by decide), fun _ => hm, fun w => absurd w (by decide), fun _ w => absurd rfl w⟩⟩))
  · subst c
    rw [show ([.ref 5, .int x1] : List Value) = [.ref 5, .int (nI (sk_n x1))] by rw [← e1]]
    exact c_presentIn hG hC (by omega) (k_X8_middle_89 (q hi _ (fun _ _ => rfl) ⟨fun w => absurd z w, fun _ => ⟨fun w => absurd w (by decide), fun w => absurd w (by decide), fun _ => rfl, fun _ _ w => absurd rfl w⟩⟩))
theorem c_as0 {k : Nat} {p : Nat × Nat} (hG : sk_G S) (hR : sk_R0 hi S) (hk : k < 744) (hp : S.2.2.1 k = some p) (q : Q (some (.int (if p.2 = 2 then -1 else nI p.1))) (sk_h hi rr ex)) : sk_Ct Γ m_X9_as [.ref 20, .int (nI (20 + 2 * k)), .int 0] (sk_h hi rr ex) Q := by
  obtain ⟨t1, t2⟩ := sk_R0_t hR hk
  have g := hG.2.2.2.2.1 _ p hp
  rw [hp] at t1 t2
  have e : hi 21 (nI (20 + 2 * k) + 1).toNatClampNeg = nI p.2 := by rw [nI_1, nI_clamp (by omega), t2]; rfl
  refine sk_Ct.of ok_X9_as.2.2.2 (Nat.le_of_ble_eq_true rfl) (k_X9_as_0 (by rw [nI_1]; exact vp_in_nI (by omega) (by decide)) (fun c => absurd rfl c) (fun c => absurd rfl c) (fun c => absurd rfl c) (fun _ _ => vp_in_nI (by omega) (by decide)) (fun _ c => ?_) (fun _ c => ?_))
  · rw [e] at c
    rw [if_neg (fun w => c (by rw [w]; rfl))] at q
    rw [nI_clamp (by omega), t1]
    exact q
  · rw [e] at c
    rw [if_pos ((nI_eq (b := 2) (by omega) (by decide)).mp c)] at q
    exact q
theorem c_as1 {k : Nat} {p : Nat × Nat} (hG : sk_G S) (hR : sk_R0 hi S) (hk : k < 744) (hp : S.2.2.1 k = some p) (q : Q (some (.int (if p.2 = 1 then 1000 else nI p.1))) (sk_h hi rr ex)) : sk_Ct Γ m_X9_as [.ref 20, .int (nI (20 + 2 * k)), .int 1] (sk_h hi rr ex) Q := by
  obtain ⟨t1, t2⟩ := sk_R0_t hR hk
  have g := hG.2.2.2.2.1 _ p hp
  rw [hp] at t1 t2
  have e : hi 21 (nI (20 + 2 * k) + 1).toNatClampNeg = nI p.2 := by rw [nI_1, nI_clamp (by omega), t2]; rfl
  refine sk_Ct.of ok_X9_as.2.2.2 (Nat.le_of_ble_eq_true rfl) (k_X9_as_0 (by rw [nI_1]; exact vp_in_nI (by omega) (by decide)) (fun _ _ => vp_in_nI (by omega) (by decide)) (fun _ c => ?_) (fun _ c => ?_) (fun c => absurd c sk_n10) (fun c => absurd c sk_n10) (fun c => absurd c sk_n10))
  · rw [e] at c
    rw [if_neg (fun w => c (by rw [w]; rfl))] at q
    rw [nI_clamp (by omega), t1]
    exact q
  · rw [e] at c
    rw [if_pos ((nI_eq (b := 1) (by omega) (by decide)).mp c)] at q
    exact q
/-- the search by counting, from -1 on -/
theorem c_rmid {h op : Nat} {x2 bd x3 : Int32} (hG : sk_G S) (hR : sk_R0 hi S) (hh : h < 24) (hbd : bd = -1 ∨ bd = 1000) (has : ∀ (d : Nat) (p : Nat × Nat) (Q' : Option Value → sk_Hp → Prop), d < 31 → S.2.2.1 (h * 31 + d) = some p → Q' (some (.int (if p.2 = op then bd else nI p.1))) (sk_h hi rr ex) → sk_Ct Γ m_X9_as [.ref 20, .int (nI (20 + 2 * (h * 31 + d))), .int (if x2 = 1 then 1 else 0)] (sk_h hi rr ex) Q') (hn0 : 0 < sk_ct (sk_pr S.2.2.1 h) 31) (q : ∀ r, sk_Mid S.2.2.1 h op bd r → Q (some (.int r)) (sk_h hi rr ex)) :
    sk_Go Γ (sk_M Γ m_X9_middle Q) (0, 0) 52 [some (.ref 20), some (.int (nI h)), some (.int x2), some (.int x3), some (.int (nI ((sk_ct (sk_pr S.2.2.1 h) 31 - 1) / 2))), some (.int (-1)), none, none] [] (sk_h hi rr ex) := by
  have hn31 : sk_ct (sk_pr S.2.2.1 h) 31 ≤ 31 := sk_ct_le _ _
  have vi : ∀ i, i ≤ 2000 → (nI i + (-1)).toInt = (i : Int) - 1 := fun i hi' => by
    have h1 : (nI i).toInt = i := nI_toInt (by omega)
    have h2 : ((-1 : Int32)).toInt = -1 := by decide
    rw [Int32.toInt_add, h1, h2, Int.bmod_def]
    split <;> omega
  have mvr : ∀ d z, sk_mv S.2.2.1 h op bd d = some z → -1 ≤ z.toInt ∧ z.toInt ≤ 1000 := by
    intro d z hz
    unfold sk_mv at hz
    cases ho : S.2.2.1 (h * 31 + d) with
    | none => rw [ho] at hz; cases hz
    | some p =>
      rw [ho] at hz
      have g := hG.2.2.2.2.1 _ p ho
      have hz := Option.some.inj hz
      rw [← hz]
      by_cases hp : p.2 = op
      · rw [if_pos hp]
        rcases hbd with rfl | rfl <;> decide
      · rw [if_neg hp, nI_toInt (by omega)]
        omega
  have outer : ∀ n i, i + n = 1002 → (∀ v, v < nI i + (-1) → sk_ct (sk_lc S.2.2.1 h op bd v) 31 ≤ (sk_ct (sk_pr S.2.2.1 h) 31 - 1) / 2) → sk_Go Γ (sk_M Γ m_X9_middle Q) (0, 0) 52 [some (.ref 20), some (.int (nI h)), some (.int x2), some (.int x3), some (.int (nI ((sk_ct (sk_pr S.2.2.1 h) 31 - 1) / 2))), some (.int (nI i + (-1))), none, none] [] (sk_h hi rr ex) := by
    intro n
    induction n with
    | zero =>
      intro i hi' hlow
      have e : i = 1002 := by omega
      subst e
      have h1 : (1000 : Int32) < nI 1002 + (-1) := by decide
      -- all values are at most 1000
      have h2 := hlow 1000 h1
      have h3 : sk_ct (sk_pr S.2.2.1 h) 31 ≤ sk_ct (sk_lc S.2.2.1 h op bd 1000) 31 := sk_ct_mono (fun d hd hp => by
        unfold sk_lc
        cases ho : sk_mv S.2.2.1 h op bd d with
        | none =>
          unfold sk_mv at ho
          unfold sk_pr at hp
          cases ho2 : S.2.2.1 (h * 31 + d) with
          | none => rw [ho2] at hp; cases hp
          | some p => rw [ho2] at ho; cases ho
        | some z =>
          have := (mvr d z ho).2
          refine decide_eq_true ?_
          rw [Int32.le_iff_toInt_le, show (1000 : Int32).toInt = 1000 by decide]
          exact this)
      omega
    | succ n ih =>
      intro i hi' hlow
      have h1 : ¬ (1000 : Int32) < nI i + (-1) := by
        rw [Int32.lt_iff_toInt_lt, vi i (by omega), show (1000 : Int32).toInt = 1000 by decide]
        omega
      refine k_X9_middle_52 (fun c => absurd c h1) (fun _ => ?_)
      have inner : ∀ k d, d + k = 31 → sk_Go Γ (sk_M Γ m_X9_middle Q) (0, 0) 66 [some (.ref 20), some (.int (nI h)), some (.int x2), some (.int x3), some (.int (nI ((sk_ct (sk_pr S.2.2.1 h) 31 - 1) / 2))), some (.int (nI i + (-1))), some (.int (nI (sk_ct (sk_lc S.2.2.1 h op bd (nI i + (-1))) d))), some (.int (nI d))] [] (sk_h hi rr ex) := by
        intro k
        induction k with
        | zero =>
          intro d hd
          have e : d = 31 := by omega
          subst e
          have hl31 := sk_ct_le (sk_lc S.2.2.1 h op bd (nI i + (-1))) 31
          refine k_X9_middle_66 (fun _ c => ?_) (fun _ c => ?_) (fun c => absurd (nI_le (a := 31) (Nat.le_refl 31) (by decide)) c)
          · have c2 := (nI_leI (by omega) (by omega)).mp c
            have e2 : nI i + (-1) + 1 = nI (i + 1) + (-1) := by
              rw [← nI_1, Int32.add_assoc, Int32.add_assoc]
              congr 1
            rw [e2]
            refine ih (i + 1) (by omega) (fun v hv => ?_)
            by_cases hlt : v < nI i + (-1)
            · exact hlow v hlt
            · have : v = nI i + (-1) := by
                apply Int32.toInt_inj.mp
                rw [Int32.lt_iff_toInt_lt, vi _ (by omega)] at hv hlt
                rw [vi _ (by omega)]
                omega
              rw [this]
              exact c2
          · exact q _ (Or.inr ⟨hn0, Nat.lt_of_not_le (fun w => c ((nI_leI (by omega) (by omega)).mpr w)), hlow⟩)
        | succ k ihk =>
          intro d hd
          have hn2 : ¬ (31 : Int32) ≤ nI d := nI_ge (b := 31) (by omega) (by decide)
          have := ihk (d + 1) (by omega)
          obtain ⟨t1, t2⟩ := sk_R0_t hR (k := h * 31 + d) (by omega)
          have tn := sk_tv_neg (hG.2.2.2.2.1 (h * 31 + d))
          refine k_X9_middle_66 (fun c => absurd c hn2) (fun c => absurd c hn2) (fun _ => c_cell (k_X9_middle_85 (vp_in_nI (by omega) (by decide)) (fun c => ?_) (fun c => c_cell ?_)))
          · rw [nI_clamp (by omega), t1, tn] at c
            rw [sk_ct_s (sk_lc S.2.2.1 h op bd (nI i + (-1))) d, if_neg (by simp [sk_lc, sk_mv, c]), Nat.add_zero] at this
            rw [show (0 : Int32) = nI 0 from rfl, nI_add, Nat.add_zero, nI_1]
            exact this
          · rw [nI_clamp (by omega), t1, tn] at c
            cases ho : S.2.2.1 (h * 31 + d) with
            | none => exact absurd ho c
            | some p =>
              have e2 : sk_lc S.2.2.1 h op bd (nI i + (-1)) d = decide ((if p.2 = op then bd else nI p.1) ≤ nI i + (-1)) := by
                simp [sk_lc, sk_mv, ho]
              have fin : sk_Ct Γ m_X9_as [.ref 20, .int (nI (20 + 2 * (h * 31 + d))), .int (if x2 = 1 then 1 else 0)] (sk_h hi rr ex) (fun r h' => sk_Go Γ (sk_M Γ m_X9_middle Q) (0, 0) 109 [some (.ref 20), some (.int (nI h)), some (.int x2), some (.int x3), some (.int (nI ((sk_ct (sk_pr S.2.2.1 h) 31 - 1) / 2))), some (.int (nI i + (-1))), some (.int (nI (sk_ct (sk_lc S.2.2.1 h op bd (nI i + (-1))) d))), some (.int (nI d))] (r.toList ++ [.int (nI (sk_ct (sk_lc S.2.2.1 h op bd (nI i + (-1))) d))]) h') := by
                refine has d p _ (by omega) ho (k_X9_middle_109 (fun c => ?_) (fun c => ?_))
                · rw [sk_ct_s (sk_lc S.2.2.1 h op bd (nI i + (-1))) d, if_neg (by rw [e2]; simp; exact c), Nat.add_zero] at this
                  rw [show (0 : Int32) = nI 0 from rfl, nI_add, Nat.add_zero, nI_1]
                  exact this
                · rw [sk_ct_s (sk_lc S.2.2.1 h op bd (nI i + (-1))) d, if_pos (by rw [e2]; exact decide_eq_true (Int32.not_lt.mp c))] at this
                  rw [nI_1, nI_1]
                  exact this
              refine k_X9_middle_96 (fun c => ?_) (fun c => ?_)
              · rw [if_neg c] at fin
                exact fin
              · rw [if_pos c] at fin
                exact fin
      exact inner 31 0 (by omega)
  refine outer 1002 0 (by omega) (fun v hv => ?_)
  have : sk_ct (sk_lc S.2.2.1 h op bd v) 31 ≤ 0 := sk_ct_lim (fun d _ hd => by
    unfold sk_lc
    cases ho : sk_mv S.2.2.1 h op bd d with
    | none => rfl
    | some z =>
      have := (mvr d z ho).1
      refine decide_eq_false ?_
      rw [Int32.lt_iff_toInt_lt, vi 0 (by omega)] at hv
      rw [Int32.le_iff_toInt_le]
      omega)
  omega
theorem cm_middle {x1 x2 : Int32} (hG : sk_G S) (hR : sk_R0 hi S) (q : ∀ r, sp_middle S x1 x2 r → Q (some (.int r)) (sk_h hi rr ex)) : sk_Ct Γ m_X9_middle [.ref 20, .int x1, .int x2] (sk_h hi rr ex) Q := by
  refine sk_Ct.of ok_X9_middle.2.2.2 (Nat.le_of_ble_eq_true rfl) (k_X9_middle_0 (c_X9_isIn (l := 0) (u := 23) (by decide) (by decide) (by decide) (by decide) (fun z => ?_) (fun z => k_X9_middle_7 (fun _ => q _ ⟨fun _ => rfl, fun w => absurd w z⟩) (fun c => absurd rfl c))))
  obtain ⟨e1, a1, b1⟩ := sk_rg_n z (by decide)
  have hz : ∀ r, ((x2 = 0 → sk_Mid S.2.2.1 (sk_n x1) 2 (-1) r) ∧ (x2 = 1 → sk_Mid S.2.2.1 (sk_n x1) 1 1000 r) ∧ (x2 = 2 → r = nI (sk_ct (sk_pr S.2.2.1 (sk_n x1)) 31)) ∧ (¬ x2 = 0 → ¬ x2 = 1 → ¬ x2 = 2 → r = -2)) → Q (some (.int r)) (sk_h hi rr ex) := fun r hr => q r ⟨fun w => absurd z w, fun _ => hr⟩
  clear q
  generalize sk_n x1 = h at e1 a1 b1 hz
  subst e1
  have hct := sk_ct_le (sk_pr S.2.2.1 h) 31
  refine k_X9_middle_7 (fun c => absurd c sk_n10) (fun _ => c_X9_isIn (l := 0) (u := 2) (by decide) (by decide) (by decide) (by decide) (fun z2 => k_X9_middle_16 (fun _ => c_rpresent hG hR (by omega) (k_X9_middle_27 (fun c c0 => ?_) (fun c c0 => ?_) (fun c => ?_))) (fun c => absurd c sk_n10)) (fun z2 => k_X9_middle_16 (fun c => absurd rfl c) (fun _ => ?_)))
  · have hn0 : 0 < sk_ct (sk_pr S.2.2.1 h) 31 := Nat.pos_of_ne_zero (fun w => c0 (by rw [w]; rfl))
    have ei : (nI (sk_ct (sk_pr S.2.2.1 h) 31) - 1) / 2 = nI ((sk_ct (sk_pr S.2.2.1 h) 31 - 1) / 2) := by
      rw [show (1 : Int32) = nI 1 from rfl, pk_sub (by omega), show (2 : Int32) = nI 2 from rfl, pk_div (by omega) (by decide) (by decide)]
    rw [ei]
    obtain ⟨j, j1, j2, rfl⟩ := z2
    rcases (show j = 0 ∨ j = 1 ∨ j = 2 by omega) with rfl | rfl | rfl
    · exact c_rmid (op := 2) (bd := -1) hG hR (by omega) (Or.inl rfl) (fun d p Q' hd hp q' => by rw [if_neg (by decide)]; exact c_as0 hG hR (by omega) hp q') hn0 (fun r hr => hz r ⟨fun _ => hr, fun w => absurd w (by decide), fun w => absurd w (by decide), fun w => absurd rfl w⟩)
    · exact c_rmid (op := 1) (bd := 1000) hG hR (by omega) (Or.inr rfl) (fun d p Q' hd hp q' => by rw [if_pos (by decide)]; exact c_as1 hG hR (by omega) hp q') hn0 (fun r hr => hz r ⟨fun w => absurd w (by decide), fun _ => hr, fun w => absurd w (by decide), fun _ w => absurd rfl w⟩)
    · exact absurd rfl c
  · have c1 : sk_ct (sk_pr S.2.2.1 h) 31 = 0 := (nI_eq (b := 0) (by omega) (by decide)).mp c0
    exact hz _ ⟨fun _ => Or.inl ⟨c1, rfl⟩, fun _ => Or.inl ⟨c1, rfl⟩, fun w => absurd w c, fun _ _ _ => rfl⟩
  · exact hz _ ⟨fun w => absurd (w.symm.trans c) (by decide), fun w => absurd (w.symm.trans c) (by decide), fun _ => rfl, fun _ _ w => absurd c w⟩
  · exact hz _ ⟨fun w => absurd ⟨0, by omega, by omega, w⟩ z2, fun w => absurd ⟨1, by omega, by omega, w⟩ z2, fun w => absurd ⟨2, by omega, by omega, w⟩ z2, fun _ _ _ => rfl⟩
end MID2
