theorem sk_R0_s {hi : Nat → Nat → Int32} {S : sk_S} (hR : sk_R0 hi S) : hi 21 3 = nI S.2.2.2.1 ∧ ∀ i, i < S.2.2.2.1 → hi 21 (4 + 3 * i) = nI (S.2.2.2.2.1 i) ∧ hi 21 (4 + 3 * i + 1) = nI (S.2.2.2.2.2.1 i) ∧ hi 21 (4 + 3 * i + 2) = nI (S.2.2.2.2.2.2 i) := by
  refine ⟨hR.2.2.2.1, fun i h => ?_⟩
  have h := hR.2.2.2.2 i h
  rw [Nat.zero_add] at h
  exact h
theorem sk_stx (i : Nat) : 4 + 3 * nI i = nI (4 + 3 * i) := by
  rw [show (4 : Int32) = nI 4 from rfl, show (3 : Int32) = nI 3 from rfl, pk_mul, nI_add]
theorem sk_R_s {f f' : Nat → Int32} {S : sk_S} {z : sk_Zt} (hR : sk_R f 0 S) (h3 : f' 3 = nI z.1) (hz : ∀ i, i < z.1 → f' (4 + 3 * i) = nI (z.2.1 i) ∧ f' (4 + 3 * i + 1) = nI (z.2.2.1 i) ∧ f' (4 + 3 * i + 2) = nI (z.2.2.2 i)) (ho : ∀ j, (j < 3 ∨ 16 ≤ j) → f' j = f j) : sk_R f' 0 (S.1, S.2.1, S.2.2.1, z) := by
  obtain ⟨r1, r2, r3, r4, r5⟩ := hR
  refine ⟨fun b hb t ht h hh => by rw [ho _ (by omega)]; exact r1 b hb t ht h hh, ⟨by rw [ho _ (by omega)]; exact r2.1, by rw [ho _ (by omega)]; exact r2.2.1, by rw [ho _ (by omega)]; exact r2.2.2⟩, fun k hk => ⟨by rw [ho _ (by omega)]; exact (r3 k hk).1, by rw [ho _ (by omega)]; exact (r3 k hk).2⟩, h3, fun i hi => ?_⟩
  rw [Nat.zero_add]
  exact hz i hi
section STAT2
variable {Γ : sk_Cx} {Q : Option Value → sk_Hp → Prop} {rr : Nat → Nat → Option Nat} {ex : List (Nat × Nat)} {hi : Nat → Nat → Int32} {S : sk_S}
theorem c_stationAt {x y : Nat} (hG : sk_G S) (hR : sk_R0 hi S) (hx : x ≤ 200) (hy : y ≤ 200) (q1 : ∀ i, sk_ff (sk_spt S.2.2.2 x y) S.2.2.2.1 = some i → i < S.2.2.2.1 → Q (some (.int (nI i))) (sk_h hi rr ex)) (q0 : sk_ff (sk_spt S.2.2.2 x y) S.2.2.2.1 = none → Q (some (.int (-1))) (sk_h hi rr ex)) : sk_Ct Γ m_X9_stationAt [.ref 20, .int (nI x), .int (nI y)] (sk_h hi rr ex) Q := by
  obtain ⟨s1, s2⟩ := sk_R0_s hR
  have g := hG.2.2.2.2.2
  refine sk_Ct.of ok_X9_stationAt.2.2.2 (Nat.le_of_ble_eq_true rfl) (k_X9_stationAt_0 ?_)
  have loop : ∀ k i, i + k = S.2.2.2.1 → sk_ff (sk_spt S.2.2.2 x y) i = none → sk_Go Γ (sk_M Γ m_X9_stationAt Q) (0, 0) 2 [some (.ref 20), some (.int (nI x)), some (.int (nI y)), some (.int (nI i))] [] (sk_h hi rr ex) := by
    intro k
    induction k with
    | zero =>
      intro i hi' hf
      have e : i = S.2.2.2.1 := by omega
      subst e
      have hc : hi 21 3 ≤ nI S.2.2.2.1 := by rw [s1]; exact Int32.le_refl _
      exact k_X9_stationAt_2 (fun _ => q0 hf) (fun c => absurd hc c) (fun c => absurd hc c) (fun c => absurd hc c) (fun c => absurd hc c) (fun c => absurd hc c)
    | succ k ih =>
      intro i hi' hf
      have hn : ¬ hi 21 3 ≤ nI i := by rw [s1]; exact nI_ge (by omega) (by omega)
      obtain ⟨u1, u2, u3⟩ := s2 i (by omega)
      obtain ⟨g1, g2, g3⟩ := g.2 i (by omega)
      have nx : ¬ (S.2.2.2.2.1 i = x ∧ S.2.2.2.2.2.1 i = y) → sk_Go Γ (sk_M Γ m_X9_stationAt Q) (0, 0) 2 [some (.ref 20), some (.int (nI x)), some (.int (nI y)), some (.int (nI i + 1))] [] (sk_h hi rr ex) := fun w => by
        rw [nI_1]
        refine ih (i + 1) (by omega) ?_
        unfold sk_ff
        rw [hf]
        simp only
        rw [if_neg (by unfold sk_spt; simp only [decide_eq_true_eq]; exact w)]
      refine k_X9_stationAt_2 (fun c => absurd c hn) (fun _ => by rw [sk_stx]; exact vp_in_nI (by omega) (by decide)) (fun _ c => ?_) (fun _ _ => by rw [sk_stx, nI_1]; exact vp_in_nI (by omega) (by decide)) (fun _ c1 c => ?_) (fun _ c1 c => ?_)
      · rw [sk_stx, nI_clamp (by omega), u1, nI_eq (by omega) (by omega)] at c
        exact nx (fun w => c w.1)
      · rw [sk_stx, nI_1, nI_clamp (by omega), u2, nI_eq (by omega) (by omega)] at c
        exact nx (fun w => c w.2)
      · rw [sk_stx, nI_clamp (by omega), u1, nI_eq (by omega) (by omega)] at c1
        rw [sk_stx, nI_1, nI_clamp (by omega), u2, nI_eq (by omega) (by omega)] at c
        refine q1 i (sk_ff_up (m := i + 1) ?_ (by omega)) (by omega)
        unfold sk_ff
        rw [hf]
        simp only
        rw [if_pos (by unfold sk_spt; simp only [decide_eq_true_eq]; exact ⟨c1, c⟩)]
  exact loop S.2.2.2.1 0 (by omega) rfl
theorem c_away {x y j : Nat} (hG : sk_G S) (hR : sk_R0 hi S) (hx : x ≤ 200) (hy : y ≤ 200) (hj : j < S.2.2.2.1) (q : Q (some (.long (lN (sk_ds S.2.2.2 x y j)))) (sk_h hi rr ex)) : sk_Ct Γ m_X9_away [.ref 20, .int (nI j), .int (nI x), .int (nI y)] (sk_h hi rr ex) Q := by
  obtain ⟨s1, s2⟩ := sk_R0_s hR
  have g := hG.2.2.2.2.2
  obtain ⟨u1, u2, u3⟩ := s2 j hj
  obtain ⟨g1, g2, g3⟩ := g.2 j hj
  refine sk_Ct.of ok_X9_away.2.2.2 (Nat.le_of_ble_eq_true rfl) (k_X9_away_0 (by rw [sk_stx]; exact vp_in_nI (by omega) (by decide)) (by rw [sk_stx, nI_1]; exact vp_in_nI (by omega) (by decide)) ?_)
  rw [sk_stx, nI_1, nI_clamp (by omega), nI_clamp (by omega), u1, u2, sk_sq64 g1 hx, sk_sq64 g2 hy, lN_add]
  exact q
theorem cm_map {x1 x2 : Int32} (hG : sk_G S) (hR : sk_R0 hi S) (q : Q (some (.int (vl_map S x1 x2))) (sk_h hi rr ex)) : sk_Ct Γ m_X9_map [.ref 20, .int x1, .int x2] (sk_h hi rr ex) Q := by
  obtain ⟨s1, s2⟩ := sk_R0_s hR
  have g := hG.2.2.2.2.2
  unfold vl_map at q
  refine sk_Ct.of ok_X9_map.2.2.2 (Nat.le_of_ble_eq_true rfl) (k_X9_map_0 (fun c => ?_) (fun c => ?_))
  · rw [s1] at c
    have c := (nI_eq (b := 0) (by omega) (by decide)).mp c
    rw [if_pos c] at q
    by_cases h : sk_rg x1 0 200 ∧ sk_rg x2 0 200
    · rw [sk_if_t h] at q; exact q
    · rw [sk_if_f h] at q; exact q
  · have c0 : ¬ S.2.2.2.1 = 0 := fun w => c (by rw [s1, w]; rfl)
    refine c_X9_isSpot (fun z1 z2 => k_X9_map_14 (fun _ => ?_) (fun c => absurd c sk_n10)) (fun z => k_X9_map_14 (fun c => absurd rfl c) (fun _ => by rw [sk_if_f z] at q; exact q))
    rw [sk_if_t ⟨z1, z2⟩, if_neg c0] at q
    obtain ⟨e1, a1, b1⟩ := sk_rg_n z1 (by decide)
    obtain ⟨e2, a2, b2⟩ := sk_rg_n z2 (by decide)
    generalize sk_n x1 = x at e1 a1 b1 q
    generalize sk_n x2 = y at e2 a2 b2 q
    subst e1; subst e2
    refine c_stationAt hG hR b1 b2 (fun i hf hi' => ?_) (fun hf => ?_)
    · refine k_X9_map_25 (fun c => absurd c (nI_pos (by omega))) (fun _ => by rw [sk_stx, show (2 : Int32) = nI 2 from rfl, nI_add]; exact vp_in_nI (by omega) (by decide)) (fun _ => ?_)
      rw [hf] at q
      rw [sk_stx, show (2 : Int32) = nI 2 from rfl, nI_add, nI_clamp (by omega), (s2 i hi').2.2]
      exact q
    · have hm : (-1 : Int32) < 0 := by decide
      refine k_X9_map_25 (fun _ => ?_) (fun c => absurd hm c) (fun c => absurd hm c)
      rw [hf] at q
      have ok := sk_sw_ok (z := S.2.2.2) (x := x) (y := y) (n := S.2.2.2.1) (fun j hj => sk_ds_le b1 b2 (g.2 j hj).1 (g.2 j hj).2.1) (fun j hj => sk_ds_pos (sk_ff_no hf j hj)) g.1 S.2.2.2.1 (Nat.le_refl _)
      have bd : S.2.2.2.1 * 80000 ^ 3 ≤ 4 * 80000 ^ 3 := Nat.mul_le_mul_right _ g.1
      have nz := sk_lN0 (w := sk_sw S.2.2.2 x y S.2.2.2.1 S.2.2.2.1) (by omega) (by omega)
      have outer : ∀ k j, j + k = S.2.2.2.1 → sk_Go Γ (sk_M Γ m_X9_map Q) (0, 0) 52 [some (.ref 20), some (.int (nI x)), some (.int (nI y)), some (.int (-1)), some (.long (lN (sk_sv S.2.2.2 x y S.2.2.2.1 j))), none, some (.long (lN (sk_sw S.2.2.2 x y S.2.2.2.1 j))), none, some (.int (nI j)), none, none, none] [] (sk_h hi rr ex) := by
        intro k
        induction k with
        | zero =>
          intro j hj
          have e : j = S.2.2.2.1 := by omega
          subst e
          have hc : hi 21 3 ≤ nI S.2.2.2.1 := by rw [s1]; exact Int32.le_refl _
          exact k_X9_map_52 (fun _ => nz) (fun _ => q) (fun c => absurd hc c)
        | succ k ih =>
          intro j hj
          have hn : ¬ hi 21 3 ≤ nI j := by rw [s1]; exact nI_ge (by omega) (by omega)
          obtain ⟨u1, u2, u3⟩ := s2 j (by omega)
          obtain ⟨g1, g2, g3⟩ := g.2 j (by omega)
          refine k_X9_map_52 (fun c => absurd c hn) (fun c => absurd c hn) (fun _ => ?_)
          have inner : ∀ k2 o, o + k2 = S.2.2.2.1 → sk_Go Γ (sk_M Γ m_X9_map Q) (0, 0) 69 [some (.ref 20), some (.int (nI x)), some (.int (nI y)), some (.int (-1)), some (.long (lN (sk_sv S.2.2.2 x y S.2.2.2.1 j))), none, some (.long (lN (sk_sw S.2.2.2 x y S.2.2.2.1 j))), none, some (.int (nI j)), some (.long (lN (sk_wp S.2.2.2 x y j o))), none, some (.int (nI o))] [] (sk_h hi rr ex) := by
            intro k2
            induction k2 with
            | zero =>
              intro o ho
              have e : o = S.2.2.2.1 := by omega
              subst e
              have hc : hi 21 3 ≤ nI S.2.2.2.1 := by rw [s1]; exact Int32.le_refl _
              refine k_X9_map_69 (fun _ => by rw [sk_stx, show (2 : Int32) = nI 2 from rfl, nI_add]; exact vp_in_nI (by omega) (by decide)) (fun _ => ?_) (fun c => absurd hc c) (fun c => absurd hc c)
              rw [sk_stx, show (2 : Int32) = nI 2 from rfl, nI_add, nI_clamp (by omega), u3, nI_l (by omega), lN_mul, lN_add, lN_add, nI_1]
              exact ih (j + 1) (by omega)
            | succ k2 ihk =>
              intro o ho
              have hn2 : ¬ hi 21 3 ≤ nI o := by rw [s1]; exact nI_ge (by omega) (by omega)
              have := ihk (o + 1) (by omega)
              refine k_X9_map_69 (fun c => absurd c hn2) (fun c => absurd c hn2) (fun _ c => ?_) (fun _ c => c_away hG hR b1 b2 (by omega) (k_X9_map_97 ?_))
              · rw [nI_eq (by omega) (by omega)] at c
                rw [sk_wp, if_pos c] at this
                rw [nI_1]
                exact this
              · rw [nI_eq (by omega) (by omega)] at c
                rw [sk_wp, if_neg c] at this
                rw [lN_mul, nI_1]
                exact this
          exact inner S.2.2.2.1 0 (by omega)
      exact outer S.2.2.2.1 0 (by omega)
theorem cm_station {x1 x2 x3 : Int32} (hG : sk_G S) (hR : sk_R0 hi S) (q1 : sk_Pst S x1 x2 x3 → ∀ hi', sk_R0 hi' (nx_station S x1 x2 x3) → sk_FR hi hi' → Q (some (.int (nI S.2.2.2.1))) (sk_h hi' rr ex)) (q0 : ¬ sk_Pst S x1 x2 x3 → Q (some (.int (-1))) (sk_h hi rr ex)) : sk_Ct Γ m_X9_station [.ref 20, .int x1, .int x2, .int x3] (sk_h hi rr ex) Q := by
  obtain ⟨s1, s2⟩ := sk_R0_s hR
  have g := hG.2.2.2.2.2
  refine sk_Ct.of ok_X9_station.2.2.2 (Nat.le_of_ble_eq_true rfl) (k_X9_station_0 (fun c => q0 (fun w => ?_)) (fun c => ?_))
  · rw [s1] at c
    have := (nI_eq (b := 4) (by omega) (by decide)).mp c
    have := w.2.2.1
    omega
  · have hn4 : S.2.2.2.1 < 4 := by
      have : ¬ S.2.2.2.1 = 4 := fun w => c (by rw [s1, w]; rfl)
      omega
    refine c_X9_isSpot (fun z1 z2 => k_X9_station_15 (fun c => absurd c sk_n10) (fun _ => c_X9_isIn (l := 0) (u := 999) (by decide) (by decide) (by decide) (by decide) (fun z3 => k_X9_station_26 (fun c => absurd c sk_n10) (fun _ => ?_)) (fun z3 => k_X9_station_26 (fun _ => q0 (fun w => z3 w.2.1)) (fun c => absurd rfl c)))) (fun z => k_X9_station_15 (fun _ => q0 (fun w => z w.1)) (fun c => absurd rfl c))
    obtain ⟨e1, a1, b1⟩ := sk_rg_n z1 (by decide)
    obtain ⟨e2, a2, b2⟩ := sk_rg_n z2 (by decide)
    obtain ⟨e3, a3, b3⟩ := sk_rg_n z3 (by decide)
    rw [show ([.ref 20, .int x1, .int x2] : List Value) = [.ref 20, .int (nI (sk_n x1)), .int (nI (sk_n x2))] by rw [← e1, ← e2]]
    refine c_stationAt hG hR b1 b2 (fun i hf hi' => k_X9_station_35 (fun c => absurd c (nI_pos (by omega))) (fun c => absurd c (nI_pos (by omega))) (fun c => absurd c (nI_pos (by omega))) (fun c => absurd c (nI_pos (by omega))) (fun _ => q0 (fun w => by rw [w.2.2.2] at hf; cases hf))) (fun hf => ?_)
    have hm : (-1 : Int32) < 0 := by decide
    have x0 : 4 + 3 * hi 21 3 = nI (4 + 3 * S.2.2.2.1) := by rw [s1, sk_stx]
    have x2e : nI (4 + 3 * S.2.2.2.1) + 2 = nI (4 + 3 * S.2.2.2.1 + 2) := by rw [show (2 : Int32) = nI 2 from rfl, nI_add]
    refine k_X9_station_35 (fun _ => by rw [x0]; exact vp_in_nI (by omega) (by decide)) (fun _ => by rw [x0, nI_1]; exact vp_in_nI (by omega) (by decide)) (fun _ => by rw [x0, x2e]; exact vp_in_nI (by omega) (by decide)) (fun _ => ?_) (fun c => absurd hm c)
    rw [x0, nI_1, x2e, nI_clamp (by omega), nI_clamp (by omega), nI_clamp (by omega), sk_wi_ne _ _ (by omega), sk_wi_ne _ _ (by omega), sk_wi_ne _ _ (by omega), s1, nI_1, nI_pred]
    refine q1 ⟨⟨z1, z2⟩, z3, hn4, hf⟩ _ (sk_R_s hR (sk_wi_self _ _ _ _) (fun i hi' => ?_) (fun j hj => by rw [sk_wi_ne _ _ (by omega), sk_wi_ne _ _ (by omega), sk_wi_ne _ _ (by omega), sk_wi_ne _ _ (by omega)])) (sk_FR_21 (fun a ha => by rw [sk_wi_o _ _ _ ha, sk_wi_o _ _ _ ha, sk_wi_o _ _ _ ha, sk_wi_o _ _ _ ha]) (fun j hj => by rw [sk_wi_ne _ _ (by omega), sk_wi_ne _ _ (by omega), sk_wi_ne _ _ (by omega), sk_wi_ne _ _ (by omega)]))
    have hi' : i < S.2.2.2.1 + 1 := hi'
    show _ = nI (sk_un S.2.2.2.2.1 S.2.2.2.1 (sk_n x1) i) ∧ _ = nI (sk_un S.2.2.2.2.2.1 S.2.2.2.1 (sk_n x2) i) ∧ _ = nI (sk_un S.2.2.2.2.2.2 S.2.2.2.1 (sk_n x3) i)
    unfold sk_un
    by_cases he : i = S.2.2.2.1
    · subst he
      rw [if_pos rfl, if_pos rfl, if_pos rfl]
      refine ⟨?_, ?_, ?_⟩
      · rw [sk_wi_ne _ _ (by omega), sk_wi_ne _ _ (by omega), sk_wi_ne _ _ (by omega), sk_wi_self]; exact e1
      · rw [sk_wi_ne _ _ (by omega), sk_wi_ne _ _ (by omega), sk_wi_self]; exact e2
      · rw [sk_wi_ne _ _ (by omega), sk_wi_self]; exact e3
    · rw [if_neg he, if_neg he, if_neg he]
      obtain ⟨u1, u2, u3⟩ := s2 i (by omega)
      refine ⟨?_, ?_, ?_⟩
      · rw [sk_wi_ne _ _ (by omega), sk_wi_ne _ _ (by omega), sk_wi_ne _ _ (by omega), sk_wi_ne _ _ (by omega)]; exact u1
      · rw [sk_wi_ne _ _ (by omega), sk_wi_ne _ _ (by omega), sk_wi_ne _ _ (by omega), sk_wi_ne _ _ (by omega)]; exact u2
      · rw [sk_wi_ne _ _ (by omega), sk_wi_ne _ _ (by omega), sk_wi_ne _ _ (by omega), sk_wi_ne _ _ (by omega)]; exact u3
theorem cm_tellStation {x1 x2 : Int32} (hG : sk_G S) (hR : sk_R0 hi S) (q1 : sk_Pts S x1 x2 → ∀ hi', sk_R0 hi' (nx_tst S x1 x2) → sk_FR hi hi' → Q (some (.int 1)) (sk_h hi' rr ex)) (q0 : ¬ sk_Pts S x1 x2 → Q (some (.int 0)) (sk_h hi rr ex)) : sk_Ct Γ m_X9_tellStation [.ref 20, .int x1, .int x2] (sk_h hi rr ex) Q := by
  obtain ⟨s1, s2⟩ := sk_R0_s hR
  have g := hG.2.2.2.2.2
  have hb := sk_below (x := x1) (n := S.2.2.2.1) (by omega)
  rw [← s1] at hb
  refine sk_Ct.of ok_X9_tellStation.2.2.2 (Nat.le_of_ble_eq_true rfl) (k_X9_tellStation_0 (c_X9_isIn' (fun c1 c2 => k_X9_tellStation_13 (fun c => absurd c sk_n10) (fun _ => c_X9_isIn (l := 0) (u := 999) (by decide) (by decide) (by decide) (by decide) (fun z3 => ?_) (fun z3 => k_X9_tellStation_24 (fun c => absurd rfl c) (fun c => absurd rfl c) (fun _ => q0 (fun w => z3 w.2))))) (fun z => k_X9_tellStation_13 (fun _ => q0 (fun w => z (hb.mpr w.1))) (fun c => absurd rfl c))))
  have hz := hb.mp ⟨c1, c2⟩
  obtain ⟨e3, a3, b3⟩ := sk_rg_n z3 (by decide)
  have hz2 := hz
  obtain ⟨k, k1, rfl⟩ := hz2
  have e : 4 + 3 * nI k + 2 = nI (4 + 3 * k + 2) := by rw [sk_stx, show (2 : Int32) = nI 2 from rfl, nI_add]
  refine k_X9_tellStation_24 (fun _ => by rw [e]; exact vp_in_nI (by omega) (by decide)) (fun _ => ?_) (fun c => absurd c sk_n10)
  rw [e, nI_clamp (by omega)]
  refine q1 ⟨hz, z3⟩ _ (sk_R_s hR (by rw [sk_wi_ne _ _ (by omega)]; exact s1) (fun i hi' => ?_) (fun j hj => sk_wi_ne _ _ (by omega))) (sk_FR_21 (fun a ha => sk_wi_o _ _ _ ha) (fun j hj => sk_wi_ne _ _ (by omega)))
  have hi' : i < S.2.2.2.1 := hi'
  obtain ⟨u1, u2, u3⟩ := s2 i hi'
  refine ⟨by rw [sk_wi_ne _ _ (by omega)]; exact u1, by rw [sk_wi_ne _ _ (by omega)]; exact u2, ?_⟩
  show _ = nI (sk_un S.2.2.2.2.2.2 (sk_n (nI k)) (sk_n x2) i)
  rw [sk_n_nI (by omega)]
  unfold sk_un
  rw [sk_wi_if]
  by_cases he : i = k
  · rw [if_pos (by omega), if_pos he]; exact e3
  · rw [if_neg (by omega), if_neg he]; exact u3
end STAT2
