section BLK
variable {Γ : sk_Cx} {Q : Option Value → sk_Hp → Prop} {rr : Nat → Nat → Option Nat} {ex : List (Nat × Nat)}
theorem k_X6_isFound_0 {hi : Nat → Nat → Int32}
    (l1 : (hi 12 4) = (-1 : Int32) → Q (some (.int 0)) (hi, sk_hr rr, sk_ks ++ ex))
    (l2 : ¬ (hi 12 4) = (-1 : Int32) → Q (some (.int 1)) (hi, sk_hr rr, sk_ks ++ ex)) :
    sk_Go Γ (sk_M Γ m_X6_isFound Q) (0, 0) 0 [some (.ref 12)] [] (hi, sk_hr rr, sk_ks ++ ex) := by
  refine go_aload_n dX6_isFound_0 rfl ?_
  refine go_getI dX6_isFound_1 fl_X6_25 rfl rfl ?_
  refine go_iconst dX6_isFound_4 (v := (-1)) (by decide) ?_
  refine go_icmp_eq (tgt := 12) dX6_isFound_5 (by decide) (fun c1 => ?_) (fun c1 => ?_)
  · refine go_iconst dX6_isFound_12 (v := 0) (by decide) ?_
    exact go_zret (μ := m_X6_isFound) dX6_isFound_13 rfl rfl (Nat.le_of_ble_eq_true rfl) (Nat.le_of_ble_eq_true rfl) (l1 c1)
  · refine go_iconst dX6_isFound_8 (v := 1) (by decide) ?_
    refine go_goto (tgt := 13) dX6_isFound_9 (by decide) ?_
    exact go_zret (μ := m_X6_isFound) dX6_isFound_13 rfl rfl (Nat.le_of_ble_eq_true rfl) (Nat.le_of_ble_eq_true rfl) (l2 c1)
theorem k_X6_heightAt_0 {x1 : Int32} {hi : Nat → Nat → Int32}
    (l1 : sk_Ct Γ m_X6_isFound [.ref 12] (hi, sk_hr rr, sk_ks ++ ex) (fun r h' => sk_Go Γ (sk_M Γ m_X6_heightAt Q) (0, 0) 4 [some (.ref 12), some (.int x1)] (r.toList ++ []) h')) :
    sk_Go Γ (sk_M Γ m_X6_heightAt Q) (0, 0) 0 [some (.ref 12), some (.int x1)] [] (hi, sk_hr rr, sk_ks ++ ex) := by
  refine go_aload_n dX6_heightAt_0 rfl ?_
  refine go_callV (μ := m_X6_isFound) (n := 4) (T := TX6) (N := 6) [] dX6_heightAt_1 ok_X6_isFound ml_X6_31 wx_X6_isFound wl_X6_isFound (show _ = some (0, 5) from rfl) rfl rfl (Nat.le_of_ble_eq_true rfl) ⟨Nat.le_of_ble_eq_true rfl, Nat.le_of_ble_eq_true rfl⟩ ⟨Nat.le_of_ble_eq_true rfl, Nat.le_of_ble_eq_true rfl⟩ rfl ?_
  exact l1
theorem k_X6_heightAt_4 {x1 s0 : Int32} {hi : Nat → Nat → Int32}
    (l1 : s0 = (0 : Int32) → Q (some (.int (-1))) (hi, sk_hr rr, sk_ks ++ ex))
    (l2 : ¬ s0 = (0 : Int32) → x1 < (hi 12 4) → Q (some (.int (-1))) (hi, sk_hr rr, sk_ks ++ ex))
    (l3 : ¬ s0 = (0 : Int32) → ¬ x1 < (hi 12 4) → (hi 12 5) < x1 → Q (some (.int (-1))) (hi, sk_hr rr, sk_ks ++ ex))
    (o1 : ¬ s0 = (0 : Int32) → ¬ x1 < (hi 12 4) → ¬ (hi 12 5) < x1 → vp_in x1 24)
    (l4 : ¬ s0 = (0 : Int32) → ¬ x1 < (hi 12 4) → ¬ (hi 12 5) < x1 → Q (some (.int (hi 15 (Int32.toNatClampNeg x1)))) (hi, sk_hr rr, sk_ks ++ ex)) :
    sk_Go Γ (sk_M Γ m_X6_heightAt Q) (0, 0) 4 [some (.ref 12), some (.int x1)] [.int s0] (hi, sk_hr rr, sk_ks ++ ex) := by
  refine go_if_eq (tgt := 32) dX6_heightAt_4 (by decide) (fun c1 => ?_) (fun c1 => ?_)
  · refine go_iconst dX6_heightAt_32 (v := (-1)) (by decide) ?_
    exact go_iret (μ := m_X6_heightAt) dX6_heightAt_33 rfl (Nat.le_of_ble_eq_true rfl) (Nat.le_of_ble_eq_true rfl) (l1 c1)
  · refine go_iload_n dX6_heightAt_7 rfl ?_
    refine go_aload_n dX6_heightAt_8 rfl ?_
    refine go_getI dX6_heightAt_9 fl_X6_25 rfl rfl ?_
    refine go_icmp_lt (tgt := 32) dX6_heightAt_12 (by decide) (fun c2 => ?_) (fun c2 => ?_)
    · refine go_iconst dX6_heightAt_32 (v := (-1)) (by decide) ?_
      exact go_iret (μ := m_X6_heightAt) dX6_heightAt_33 rfl (Nat.le_of_ble_eq_true rfl) (Nat.le_of_ble_eq_true rfl) (l2 c1 c2)
    · refine go_iload_n dX6_heightAt_15 rfl ?_
      refine go_aload_n dX6_heightAt_16 rfl ?_
      refine go_getI dX6_heightAt_17 fl_X6_28 rfl rfl ?_
      refine go_icmp_gt (tgt := 32) dX6_heightAt_20 (by decide) (fun c3 => ?_) (fun c3 => ?_)
      · refine go_iconst dX6_heightAt_32 (v := (-1)) (by decide) ?_
        exact go_iret (μ := m_X6_heightAt) dX6_heightAt_33 rfl (Nat.le_of_ble_eq_true rfl) (Nat.le_of_ble_eq_true rfl) (l3 c1 c2 c3)
      · refine go_aload_n dX6_heightAt_23 rfl ?_
        refine go_getR dX6_heightAt_24 fl_X6_18 rfl rfl (show _ = some 15 from rfl) ?_
        refine go_iload_n dX6_heightAt_27 rfl ?_
        refine go_iald dX6_heightAt_28 (show _ = some (1, 24) from rfl) (o1 c1 c2 c3) ?_
        refine go_goto (tgt := 33) dX6_heightAt_29 (by decide) ?_
        exact go_iret (μ := m_X6_heightAt) dX6_heightAt_33 rfl (Nat.le_of_ble_eq_true rfl) (Nat.le_of_ble_eq_true rfl) (l4 c1 c2 c3)
theorem k_X6_highest_0 {x0 : Int32} {hi : Nat → Nat → Int32}
    (l1 : Q (some (.int (sk_min 31 (x0 + 3)))) (hi, sk_hr rr, sk_ks ++ ex)) :
    sk_Go Γ (sk_M Γ m_X6_highest Q) (0, 0) 0 [some (.int x0)] [] (hi, sk_hr rr, sk_ks ++ ex) := by
  refine go_bipush dX6_highest_0 (v := 31) (by decide) ?_
  refine go_iload_n dX6_highest_2 rfl ?_
  refine go_iconst dX6_highest_3 (v := 3) (by decide) ?_
  refine go_iadd dX6_highest_4 ?_
  refine go_mmin (n := 8) dX6_highest_5 ml_X6_65 (Nat.le_of_ble_eq_true rfl) (Nat.le_of_ble_eq_true rfl) ⟨Nat.le_of_ble_eq_true rfl, Nat.le_of_ble_eq_true rfl⟩ rfl ?_
  exact go_iret (μ := m_X6_highest) dX6_highest_8 rfl (Nat.le_of_ble_eq_true rfl) (Nat.le_of_ble_eq_true rfl) l1
theorem k_X6_lowest_0 {x0 : Int32} {hi : Nat → Nat → Int32}
    (l1 : Q (some (.int (sk_max 0 (x0 - 3)))) (hi, sk_hr rr, sk_ks ++ ex)) :
    sk_Go Γ (sk_M Γ m_X6_lowest Q) (0, 0) 0 [some (.int x0)] [] (hi, sk_hr rr, sk_ks ++ ex) := by
  refine go_iconst dX6_lowest_0 (v := 0) (by decide) ?_
  refine go_iload_n dX6_lowest_1 rfl ?_
  refine go_iconst dX6_lowest_2 (v := 3) (by decide) ?_
  refine go_isub dX6_lowest_3 ?_
  refine go_mmax (n := 7) dX6_lowest_4 ml_X6_60 (Nat.le_of_ble_eq_true rfl) (Nat.le_of_ble_eq_true rfl) ⟨Nat.le_of_ble_eq_true rfl, Nat.le_of_ble_eq_true rfl⟩ rfl ?_
  exact go_iret (μ := m_X6_lowest) dX6_lowest_7 rfl (Nat.le_of_ble_eq_true rfl) (Nat.le_of_ble_eq_true rfl) l1
theorem k_X6_placeOf_0 {x0 x1 : Int32} {hi : Nat → Nat → Int32}
    (l1 : Q (some (.int ((x0 * 32) + x1))) (hi, sk_hr rr, sk_ks ++ ex)) :
    sk_Go Γ (sk_M Γ m_X6_placeOf Q) (0, 0) 0 [some (.int x0), some (.int x1)] [] (hi, sk_hr rr, sk_ks ++ ex) := by
  refine go_iload_n dX6_placeOf_0 rfl ?_
  refine go_bipush dX6_placeOf_1 (v := 32) (by decide) ?_
  refine go_imul dX6_placeOf_3 ?_
  refine go_iload_n dX6_placeOf_4 rfl ?_
  refine go_iadd dX6_placeOf_5 ?_
  exact go_iret (μ := m_X6_placeOf) dX6_placeOf_6 rfl (Nat.le_of_ble_eq_true rfl) (Nat.le_of_ble_eq_true rfl) l1
theorem k_X6_weigh_0 {x1 x2 x3 x4 : Int32} {hi : Nat → Nat → Int32}
    (l1 : x3 = (0 : Int32) → (24 : Int32) ≤ (x1 + 1) → sk_Ct Γ m_X6_lowest [.int x2] (hi, sk_hr rr, sk_ks ++ ex) (fun r h' => sk_Go Γ (sk_M Γ m_X6_weigh Q) (0, 0) 37 [some (.ref 12), some (.int x1), some (.int x2), some (.int x3), some (.int x4), some (.int (-1000000)), some (.int x1), some (.int (-1)), none, none, none] (r.toList ++ []) h'))
    (l2 : x3 = (0 : Int32) → ¬ (24 : Int32) ≤ (x1 + 1) → sk_Ct Γ m_X6_highest [.int x2] (hi, sk_hr rr, sk_ks ++ ex) (fun r h' => sk_Go Γ (sk_M Γ m_X6_weigh Q) (0, 0) 27 [some (.ref 12), some (.int x1), some (.int x2), some (.int x3), some (.int x4), some (.int (-1000000)), some (.int x1), none, none, none, none] (r.toList ++ []) h'))
    (l3 : ¬ x3 = (0 : Int32) → (24 : Int32) ≤ (x1 + 1) → sk_Ct Γ m_X6_lowest [.int x2] (hi, sk_hr rr, sk_ks ++ ex) (fun r h' => sk_Go Γ (sk_M Γ m_X6_weigh Q) (0, 0) 37 [some (.ref 12), some (.int x1), some (.int x2), some (.int x3), some (.int x4), some (.int 0), some (.int x1), some (.int (-1)), none, none, none] (r.toList ++ []) h'))
    (l4 : ¬ x3 = (0 : Int32) → ¬ (24 : Int32) ≤ (x1 + 1) → sk_Ct Γ m_X6_highest [.int x2] (hi, sk_hr rr, sk_ks ++ ex) (fun r h' => sk_Go Γ (sk_M Γ m_X6_weigh Q) (0, 0) 27 [some (.ref 12), some (.int x1), some (.int x2), some (.int x3), some (.int x4), some (.int 0), some (.int x1), none, none, none, none] (r.toList ++ []) h')) :
    sk_Go Γ (sk_M Γ m_X6_weigh Q) (0, 0) 0 [some (.ref 12), some (.int x1), some (.int x2), some (.int x3), some (.int x4), none, none, none, none, none, none] [] (hi, sk_hr rr, sk_ks ++ ex) := by
  refine go_iload_n dX6_weigh_0 rfl ?_
  refine go_if_eq (tgt := 8) dX6_weigh_1 (by decide) (fun c1 => ?_) (fun c1 => ?_)
  · refine go_ldc dX6_weigh_8 kc_X6_68 ?_
    refine go_istore dX6_weigh_10 (Nat.le_of_ble_eq_true rfl) ?_
    show sk_Go Γ (sk_M Γ m_X6_weigh Q) (0, 0) _ [some (.ref 12), some (.int x1), some (.int x2), some (.int x3), some (.int x4), some (.int (-1000000)), none, none, none, none, none] [] _
    refine go_iload_n dX6_weigh_12 rfl ?_
    refine go_istore dX6_weigh_13 (Nat.le_of_ble_eq_true rfl) ?_
    show sk_Go Γ (sk_M Γ m_X6_weigh Q) (0, 0) _ [some (.ref 12), some (.int x1), some (.int x2), some (.int x3), some (.int x4), some (.int (-1000000)), some (.int x1), none, none, none, none] [] _
    refine go_iload_n dX6_weigh_15 rfl ?_
    refine go_iconst dX6_weigh_16 (v := 1) (by decide) ?_
    refine go_iadd dX6_weigh_17 ?_
    refine go_bipush dX6_weigh_18 (v := 24) (by decide) ?_
    refine go_icmp_ge (tgt := 30) dX6_weigh_20 (by decide) (fun c2 => ?_) (fun c2 => ?_)
    · refine go_iconst dX6_weigh_30 (v := (-1)) (by decide) ?_
      refine go_istore dX6_weigh_31 (Nat.le_of_ble_eq_true rfl) ?_
      show sk_Go Γ (sk_M Γ m_X6_weigh Q) (0, 0) _ [some (.ref 12), some (.int x1), some (.int x2), some (.int x3), some (.int x4), some (.int (-1000000)), some (.int x1), some (.int (-1)), none, none, none] [] _
      refine go_iload_n dX6_weigh_33 rfl ?_
      refine go_callS (μ := m_X6_lowest) (n := 37) [.int x2] dX6_weigh_34 ok_X6_lowest ml_X6_73 wx_X6_lowest rfl (Nat.le_of_ble_eq_true rfl) ⟨Nat.le_of_ble_eq_true rfl, Nat.le_of_ble_eq_true rfl⟩ ⟨Nat.le_of_ble_eq_true rfl, Nat.le_of_ble_eq_true rfl⟩ rfl ?_
      exact (l1 c1 c2)
    · refine go_iload_n dX6_weigh_23 rfl ?_
      refine go_callS (μ := m_X6_highest) (n := 27) [.int x2] dX6_weigh_24 ok_X6_highest ml_X6_69 wx_X6_highest rfl (Nat.le_of_ble_eq_true rfl) ⟨Nat.le_of_ble_eq_true rfl, Nat.le_of_ble_eq_true rfl⟩ ⟨Nat.le_of_ble_eq_true rfl, Nat.le_of_ble_eq_true rfl⟩ rfl ?_
      exact (l2 c1 c2)
  · refine go_iconst dX6_weigh_4 (v := 0) (by decide) ?_
    refine go_goto (tgt := 10) dX6_weigh_5 (by decide) ?_
    refine go_istore dX6_weigh_10 (Nat.le_of_ble_eq_true rfl) ?_
    show sk_Go Γ (sk_M Γ m_X6_weigh Q) (0, 0) _ [some (.ref 12), some (.int x1), some (.int x2), some (.int x3), some (.int x4), some (.int 0), none, none, none, none, none] [] _
    refine go_iload_n dX6_weigh_12 rfl ?_
    refine go_istore dX6_weigh_13 (Nat.le_of_ble_eq_true rfl) ?_
    show sk_Go Γ (sk_M Γ m_X6_weigh Q) (0, 0) _ [some (.ref 12), some (.int x1), some (.int x2), some (.int x3), some (.int x4), some (.int 0), some (.int x1), none, none, none, none] [] _
    refine go_iload_n dX6_weigh_15 rfl ?_
    refine go_iconst dX6_weigh_16 (v := 1) (by decide) ?_
    refine go_iadd dX6_weigh_17 ?_
    refine go_bipush dX6_weigh_18 (v := 24) (by decide) ?_
    refine go_icmp_ge (tgt := 30) dX6_weigh_20 (by decide) (fun c2 => ?_) (fun c2 => ?_)
    · refine go_iconst dX6_weigh_30 (v := (-1)) (by decide) ?_
      refine go_istore dX6_weigh_31 (Nat.le_of_ble_eq_true rfl) ?_
      show sk_Go Γ (sk_M Γ m_X6_weigh Q) (0, 0) _ [some (.ref 12), some (.int x1), some (.int x2), some (.int x3), some (.int x4), some (.int 0), some (.int x1), some (.int (-1)), none, none, none] [] _
      refine go_iload_n dX6_weigh_33 rfl ?_
      refine go_callS (μ := m_X6_lowest) (n := 37) [.int x2] dX6_weigh_34 ok_X6_lowest ml_X6_73 wx_X6_lowest rfl (Nat.le_of_ble_eq_true rfl) ⟨Nat.le_of_ble_eq_true rfl, Nat.le_of_ble_eq_true rfl⟩ ⟨Nat.le_of_ble_eq_true rfl, Nat.le_of_ble_eq_true rfl⟩ rfl ?_
      exact (l3 c1 c2)
    · refine go_iload_n dX6_weigh_23 rfl ?_
      refine go_callS (μ := m_X6_highest) (n := 27) [.int x2] dX6_weigh_24 ok_X6_highest ml_X6_69 wx_X6_highest rfl (Nat.le_of_ble_eq_true rfl) ⟨Nat.le_of_ble_eq_true rfl, Nat.le_of_ble_eq_true rfl⟩ ⟨Nat.le_of_ble_eq_true rfl, Nat.le_of_ble_eq_true rfl⟩ rfl ?_
      exact (l4 c1 c2)
theorem k_X6_weigh_27 {x1 x2 x3 x4 x5 x6 s0 : Int32} {hi : Nat → Nat → Int32}
    (l1 : sk_Ct Γ m_X6_lowest [.int x2] (hi, sk_hr rr, sk_ks ++ ex) (fun r h' => sk_Go Γ (sk_M Γ m_X6_weigh Q) (0, 0) 37 [some (.ref 12), some (.int x1), some (.int x2), some (.int x3), some (.int x4), some (.int x5), some (.int x6), some (.int s0), none, none, none] (r.toList ++ []) h')) :
    sk_Go Γ (sk_M Γ m_X6_weigh Q) (0, 0) 27 [some (.ref 12), some (.int x1), some (.int x2), some (.int x3), some (.int x4), some (.int x5), some (.int x6), none, none, none, none] [.int s0] (hi, sk_hr rr, sk_ks ++ ex) := by
  refine go_goto (tgt := 31) dX6_weigh_27 (by decide) ?_
  refine go_istore dX6_weigh_31 (Nat.le_of_ble_eq_true rfl) ?_
  show sk_Go Γ (sk_M Γ m_X6_weigh Q) (0, 0) _ [some (.ref 12), some (.int x1), some (.int x2), some (.int x3), some (.int x4), some (.int x5), some (.int x6), some (.int s0), none, none, none] [] _
  refine go_iload_n dX6_weigh_33 rfl ?_
  refine go_callS (μ := m_X6_lowest) (n := 37) [.int x2] dX6_weigh_34 ok_X6_lowest ml_X6_73 wx_X6_lowest rfl (Nat.le_of_ble_eq_true rfl) ⟨Nat.le_of_ble_eq_true rfl, Nat.le_of_ble_eq_true rfl⟩ ⟨Nat.le_of_ble_eq_true rfl, Nat.le_of_ble_eq_true rfl⟩ rfl ?_
  exact l1
theorem k_X6_weigh_37 {x1 x2 x3 x4 x5 x6 x7 s0 : Int32} {hi : Nat → Nat → Int32}
    (l1 : sk_Go Γ (sk_M Γ m_X6_weigh Q) (0, 0) 39 [some (.ref 12), some (.int x1), some (.int x2), some (.int x3), some (.int x4), some (.int x5), some (.int x6), some (.int x7), some (.int s0), none, none] [] (hi, sk_hr rr, sk_ks ++ ex)) :
    sk_Go Γ (sk_M Γ m_X6_weigh Q) (0, 0) 37 [some (.ref 12), some (.int x1), some (.int x2), some (.int x3), some (.int x4), some (.int x5), some (.int x6), some (.int x7), none, none, none] [.int s0] (hi, sk_hr rr, sk_ks ++ ex) := by
  refine go_istore dX6_weigh_37 (Nat.le_of_ble_eq_true rfl) ?_
  show sk_Go Γ (sk_M Γ m_X6_weigh Q) (0, 0) _ [some (.ref 12), some (.int x1), some (.int x2), some (.int x3), some (.int x4), some (.int x5), some (.int x6), some (.int x7), some (.int s0), none, none] [] _
  exact l1
theorem k_X6_weigh_39 {x1 x2 x3 x4 x5 x6 x7 x8 : Int32} {hi : Nat → Nat → Int32}
    (l1 : x7 < x8 → sk_Ct Γ m_X6_placeOf [.int x1, .int x2] (hi, sk_hr rr, sk_ks ++ ex) (fun r h' => sk_Go Γ (sk_M Γ m_X6_weigh Q) (0, 0) 135 [some (.ref 12), some (.int x1), some (.int x2), some (.int x3), some (.int x4), some (.int x5), some (.int x6), some (.int x7), some (.int x8), none, none] (r.toList ++ []) h'))
    (l2 : ¬ x7 < x8 → sk_Ct Γ m_X6_placeOf [.int (x1 + 1), .int x8] (hi, sk_hr rr, sk_ks ++ ex) (fun r h' => sk_Go Γ (sk_M Γ m_X6_weigh Q) (0, 0) 54 [some (.ref 12), some (.int x1), some (.int x2), some (.int x3), some (.int x4), some (.int x5), some (.int x6), some (.int x7), some (.int x8), none, none] (r.toList ++ []) h')) :
    sk_Go Γ (sk_M Γ m_X6_weigh Q) (0, 0) 39 [some (.ref 12), some (.int x1), some (.int x2), some (.int x3), some (.int x4), some (.int x5), some (.int x6), some (.int x7), some (.int x8), none, none] [] (hi, sk_hr rr, sk_ks ++ ex) := by
  refine go_iload dX6_weigh_39 rfl ?_
  refine go_iload dX6_weigh_41 rfl ?_
  refine go_icmp_gt (tgt := 130) dX6_weigh_43 (by decide) (fun c1 => ?_) (fun c1 => ?_)
  · refine go_iload_n dX6_weigh_130 rfl ?_
    refine go_iload_n dX6_weigh_131 rfl ?_
    refine go_callS (μ := m_X6_placeOf) (n := 135) [.int x1, .int x2] dX6_weigh_132 ok_X6_placeOf ml_X6_53 wx_X6_placeOf rfl (Nat.le_of_ble_eq_true rfl) ⟨Nat.le_of_ble_eq_true rfl, Nat.le_of_ble_eq_true rfl⟩ ⟨Nat.le_of_ble_eq_true rfl, Nat.le_of_ble_eq_true rfl⟩ rfl ?_
    exact (l1 c1)
  · refine go_iload_n dX6_weigh_46 rfl ?_
    refine go_iconst dX6_weigh_47 (v := 1) (by decide) ?_
    refine go_iadd dX6_weigh_48 ?_
    refine go_iload dX6_weigh_49 rfl ?_
    refine go_callS (μ := m_X6_placeOf) (n := 54) [.int (x1 + 1), .int x8] dX6_weigh_51 ok_X6_placeOf ml_X6_53 wx_X6_placeOf rfl (Nat.le_of_ble_eq_true rfl) ⟨Nat.le_of_ble_eq_true rfl, Nat.le_of_ble_eq_true rfl⟩ ⟨Nat.le_of_ble_eq_true rfl, Nat.le_of_ble_eq_true rfl⟩ rfl ?_
    exact (l2 c1)
theorem k_X6_weigh_54 {x1 x2 x3 x4 x5 x6 x7 x8 s0 : Int32} {hi : Nat → Nat → Int32}
    (o1 : vp_in s0 768)
    (l1 : (hi 13 (Int32.toNatClampNeg s0)) = (-1000000 : Int32) → sk_Go Γ (sk_M Γ m_X6_weigh Q) (0, 0) 39 [some (.ref 12), some (.int x1), some (.int x2), some (.int x3), some (.int x4), some (.int x5), some (.int x6), some (.int x7), some (.int (x8 + 1)), none, none] [] (hi, sk_hr rr, sk_ks ++ ex))
    (l2 : ¬ (hi 13 (Int32.toNatClampNeg s0)) = (-1000000 : Int32) → x5 < ((hi 13 (Int32.toNatClampNeg s0)) - (sk_abs (x8 - x2))) → sk_Go Γ (sk_M Γ m_X6_weigh Q) (0, 0) 39 [some (.ref 12), some (.int x1), some (.int x2), some (.int x3), some (.int x4), some (.int ((hi 13 (Int32.toNatClampNeg s0)) - (sk_abs (x8 - x2)))), some (.int (hi 14 (Int32.toNatClampNeg s0))), some (.int x7), some (.int (x8 + 1)), none, none] [] (hi, sk_hr rr, sk_ks ++ ex))
    (l3 : ¬ (hi 13 (Int32.toNatClampNeg s0)) = (-1000000 : Int32) → ¬ x5 < ((hi 13 (Int32.toNatClampNeg s0)) - (sk_abs (x8 - x2))) → ¬ ((hi 13 (Int32.toNatClampNeg s0)) - (sk_abs (x8 - x2))) = x5 → sk_Go Γ (sk_M Γ m_X6_weigh Q) (0, 0) 39 [some (.ref 12), some (.int x1), some (.int x2), some (.int x3), some (.int x4), some (.int x5), some (.int x6), some (.int x7), some (.int (x8 + 1)), none, none] [] (hi, sk_hr rr, sk_ks ++ ex))
    (l4 : ¬ (hi 13 (Int32.toNatClampNeg s0)) = (-1000000 : Int32) → ¬ x5 < ((hi 13 (Int32.toNatClampNeg s0)) - (sk_abs (x8 - x2))) → ((hi 13 (Int32.toNatClampNeg s0)) - (sk_abs (x8 - x2))) = x5 → x6 ≤ (hi 14 (Int32.toNatClampNeg s0)) → sk_Go Γ (sk_M Γ m_X6_weigh Q) (0, 0) 39 [some (.ref 12), some (.int x1), some (.int x2), some (.int x3), some (.int x4), some (.int x5), some (.int x6), some (.int x7), some (.int (x8 + 1)), none, none] [] (hi, sk_hr rr, sk_ks ++ ex))
    (l5 : ¬ (hi 13 (Int32.toNatClampNeg s0)) = (-1000000 : Int32) → ¬ x5 < ((hi 13 (Int32.toNatClampNeg s0)) - (sk_abs (x8 - x2))) → ((hi 13 (Int32.toNatClampNeg s0)) - (sk_abs (x8 - x2))) = x5 → ¬ x6 ≤ (hi 14 (Int32.toNatClampNeg s0)) → sk_Go Γ (sk_M Γ m_X6_weigh Q) (0, 0) 39 [some (.ref 12), some (.int x1), some (.int x2), some (.int x3), some (.int x4), some (.int ((hi 13 (Int32.toNatClampNeg s0)) - (sk_abs (x8 - x2)))), some (.int (hi 14 (Int32.toNatClampNeg s0))), some (.int x7), some (.int (x8 + 1)), none, none] [] (hi, sk_hr rr, sk_ks ++ ex)) :
    sk_Go Γ (sk_M Γ m_X6_weigh Q) (0, 0) 54 [some (.ref 12), some (.int x1), some (.int x2), some (.int x3), some (.int x4), some (.int x5), some (.int x6), some (.int x7), some (.int x8), none, none] [.int s0] (hi, sk_hr rr, sk_ks ++ ex) := by
  refine go_istore dX6_weigh_54 (Nat.le_of_ble_eq_true rfl) ?_
  show sk_Go Γ (sk_M Γ m_X6_weigh Q) (0, 0) _ [some (.ref 12), some (.int x1), some (.int x2), some (.int x3), some (.int x4), some (.int x5), some (.int x6), some (.int x7), some (.int x8), some (.int s0), none] [] _
  refine go_aload_n dX6_weigh_56 rfl ?_
  refine go_getR dX6_weigh_57 fl_X6_9 rfl rfl (show _ = some 13 from rfl) ?_
  refine go_iload dX6_weigh_60 rfl ?_
  refine go_iald dX6_weigh_62 (show _ = some (1, 768) from rfl) o1 ?_
  refine go_ldc dX6_weigh_63 kc_X6_68 ?_
  refine go_icmp_eq (tgt := 124) dX6_weigh_65 (by decide) (fun c1 => ?_) (fun c1 => ?_)
  · refine go_iinc (v := x8 + 1) dX6_weigh_124 rfl rfl (Nat.le_of_ble_eq_true rfl) ?_
    show sk_Go Γ (sk_M Γ m_X6_weigh Q) (0, 0) _ [some (.ref 12), some (.int x1), some (.int x2), some (.int x3), some (.int x4), some (.int x5), some (.int x6), some (.int x7), some (.int (x8 + 1)), some (.int s0), none] [] _
    refine go_goto (tgt := 39) dX6_weigh_127 (by decide) ?_
    exact (go_wk (l1 c1) (show sk_le _ _ from (And.intro rfl (And.intro rfl (And.intro rfl (And.intro rfl (And.intro rfl (And.intro rfl (And.intro rfl (And.intro rfl (And.intro rfl trivial)))))))))))
  · refine go_aload_n dX6_weigh_68 rfl ?_
    refine go_getR dX6_weigh_69 fl_X6_9 rfl rfl (show _ = some 13 from rfl) ?_
    refine go_iload dX6_weigh_72 rfl ?_
    refine go_iald dX6_weigh_74 (show _ = some (1, 768) from rfl) o1 ?_
    refine go_iload dX6_weigh_75 rfl ?_
    refine go_iload_n dX6_weigh_77 rfl ?_
    refine go_isub dX6_weigh_78 ?_
    refine go_mabs (n := 82) dX6_weigh_79 ml_X6_76 (Nat.le_of_ble_eq_true rfl) (Nat.le_of_ble_eq_true rfl) ⟨Nat.le_of_ble_eq_true rfl, Nat.le_of_ble_eq_true rfl⟩ rfl ?_
    refine go_isub dX6_weigh_82 ?_
    refine go_istore dX6_weigh_83 (Nat.le_of_ble_eq_true rfl) ?_
    show sk_Go Γ (sk_M Γ m_X6_weigh Q) (0, 0) _ [some (.ref 12), some (.int x1), some (.int x2), some (.int x3), some (.int x4), some (.int x5), some (.int x6), some (.int x7), some (.int x8), some (.int s0), some (.int ((hi 13 (Int32.toNatClampNeg s0)) - (sk_abs (x8 - x2))))] [] _
    refine go_iload dX6_weigh_85 rfl ?_
    refine go_iload dX6_weigh_87 rfl ?_
    refine go_icmp_gt (tgt := 111) dX6_weigh_89 (by decide) (fun c2 => ?_) (fun c2 => ?_)
    · refine go_iload dX6_weigh_111 rfl ?_
      refine go_istore dX6_weigh_113 (Nat.le_of_ble_eq_true rfl) ?_
      show sk_Go Γ (sk_M Γ m_X6_weigh Q) (0, 0) _ [some (.ref 12), some (.int x1), some (.int x2), some (.int x3), some (.int x4), some (.int ((hi 13 (Int32.toNatClampNeg s0)) - (sk_abs (x8 - x2)))), some (.int x6), some (.int x7), some (.int x8), some (.int s0), some (.int ((hi 13 (Int32.toNatClampNeg s0)) - (sk_abs (x8 - x2))))] [] _
      refine go_aload_n dX6_weigh_115 rfl ?_
      refine go_getR dX6_weigh_116 fl_X6_15 rfl rfl (show _ = some 14 from rfl) ?_
      refine go_iload dX6_weigh_119 rfl ?_
      refine go_iald dX6_weigh_121 (show _ = some (1, 768) from rfl) o1 ?_
      refine go_istore dX6_weigh_122 (Nat.le_of_ble_eq_true rfl) ?_
      show sk_Go Γ (sk_M Γ m_X6_weigh Q) (0, 0) _ [some (.ref 12), some (.int x1), some (.int x2), some (.int x3), some (.int x4), some (.int ((hi 13 (Int32.toNatClampNeg s0)) - (sk_abs (x8 - x2)))), some (.int (hi 14 (Int32.toNatClampNeg s0))), some (.int x7), some (.int x8), some (.int s0), some (.int ((hi 13 (Int32.toNatClampNeg s0)) - (sk_abs (x8 - x2))))] [] _
      refine go_iinc (v := x8 + 1) dX6_weigh_124 rfl rfl (Nat.le_of_ble_eq_true rfl) ?_
      show sk_Go Γ (sk_M Γ m_X6_weigh Q) (0, 0) _ [some (.ref 12), some (.int x1), some (.int x2), some (.int x3), some (.int x4), some (.int ((hi 13 (Int32.toNatClampNeg s0)) - (sk_abs (x8 - x2)))), some (.int (hi 14 (Int32.toNatClampNeg s0))), some (.int x7), some (.int (x8 + 1)), some (.int s0), some (.int ((hi 13 (Int32.toNatClampNeg s0)) - (sk_abs (x8 - x2))))] [] _
      refine go_goto (tgt := 39) dX6_weigh_127 (by decide) ?_
      exact (go_wk (l2 c1 c2) (show sk_le _ _ from (And.intro rfl (And.intro rfl (And.intro rfl (And.intro rfl (And.intro rfl (And.intro rfl (And.intro rfl (And.intro rfl (And.intro rfl trivial)))))))))))
    · refine go_iload dX6_weigh_92 rfl ?_
      refine go_iload dX6_weigh_94 rfl ?_
      refine go_icmp_ne (tgt := 124) dX6_weigh_96 (by decide) (fun c3 => ?_) (fun c3 => ?_)
      · refine go_iinc (v := x8 + 1) dX6_weigh_124 rfl rfl (Nat.le_of_ble_eq_true rfl) ?_
        show sk_Go Γ (sk_M Γ m_X6_weigh Q) (0, 0) _ [some (.ref 12), some (.int x1), some (.int x2), some (.int x3), some (.int x4), some (.int x5), some (.int x6), some (.int x7), some (.int (x8 + 1)), some (.int s0), some (.int ((hi 13 (Int32.toNatClampNeg s0)) - (sk_abs (x8 - x2))))] [] _
        refine go_goto (tgt := 39) dX6_weigh_127 (by decide) ?_
        exact (go_wk (l3 c1 c2 c3) (show sk_le _ _ from (And.intro rfl (And.intro rfl (And.intro rfl (And.intro rfl (And.intro rfl (And.intro rfl (And.intro rfl (And.intro rfl (And.intro rfl trivial)))))))))))
      · refine go_aload_n dX6_weigh_99 rfl ?_
        refine go_getR dX6_weigh_100 fl_X6_15 rfl rfl (show _ = some 14 from rfl) ?_
        refine go_iload dX6_weigh_103 rfl ?_
        refine go_iald dX6_weigh_105 (show _ = some (1, 768) from rfl) o1 ?_
        refine go_iload dX6_weigh_106 rfl ?_
        refine go_icmp_ge (tgt := 124) dX6_weigh_108 (by decide) (fun c4 => ?_) (fun c4 => ?_)
        · refine go_iinc (v := x8 + 1) dX6_weigh_124 rfl rfl (Nat.le_of_ble_eq_true rfl) ?_
          show sk_Go Γ (sk_M Γ m_X6_weigh Q) (0, 0) _ [some (.ref 12), some (.int x1), some (.int x2), some (.int x3), some (.int x4), some (.int x5), some (.int x6), some (.int x7), some (.int (x8 + 1)), some (.int s0), some (.int ((hi 13 (Int32.toNatClampNeg s0)) - (sk_abs (x8 - x2))))] [] _
          refine go_goto (tgt := 39) dX6_weigh_127 (by decide) ?_
          exact (go_wk (l4 c1 c2 c3 c4) (show sk_le _ _ from (And.intro rfl (And.intro rfl (And.intro rfl (And.intro rfl (And.intro rfl (And.intro rfl (And.intro rfl (And.intro rfl (And.intro rfl trivial)))))))))))
        · refine go_iload dX6_weigh_111 rfl ?_
          refine go_istore dX6_weigh_113 (Nat.le_of_ble_eq_true rfl) ?_
          show sk_Go Γ (sk_M Γ m_X6_weigh Q) (0, 0) _ [some (.ref 12), some (.int x1), some (.int x2), some (.int x3), some (.int x4), some (.int ((hi 13 (Int32.toNatClampNeg s0)) - (sk_abs (x8 - x2)))), some (.int x6), some (.int x7), some (.int x8), some (.int s0), some (.int ((hi 13 (Int32.toNatClampNeg s0)) - (sk_abs (x8 - x2))))] [] _
          refine go_aload_n dX6_weigh_115 rfl ?_
          refine go_getR dX6_weigh_116 fl_X6_15 rfl rfl (show _ = some 14 from rfl) ?_
          refine go_iload dX6_weigh_119 rfl ?_
          refine go_iald dX6_weigh_121 (show _ = some (1, 768) from rfl) o1 ?_
          refine go_istore dX6_weigh_122 (Nat.le_of_ble_eq_true rfl) ?_
          show sk_Go Γ (sk_M Γ m_X6_weigh Q) (0, 0) _ [some (.ref 12), some (.int x1), some (.int x2), some (.int x3), some (.int x4), some (.int ((hi 13 (Int32.toNatClampNeg s0)) - (sk_abs (x8 - x2)))), some (.int (hi 14 (Int32.toNatClampNeg s0))), some (.int x7), some (.int x8), some (.int s0), some (.int ((hi 13 (Int32.toNatClampNeg s0)) - (sk_abs (x8 - x2))))] [] _
          refine go_iinc (v := x8 + 1) dX6_weigh_124 rfl rfl (Nat.le_of_ble_eq_true rfl) ?_
          show sk_Go Γ (sk_M Γ m_X6_weigh Q) (0, 0) _ [some (.ref 12), some (.int x1), some (.int x2), some (.int x3), some (.int x4), some (.int ((hi 13 (Int32.toNatClampNeg s0)) - (sk_abs (x8 - x2)))), some (.int (hi 14 (Int32.toNatClampNeg s0))), some (.int x7), some (.int (x8 + 1)), some (.int s0), some (.int ((hi 13 (Int32.toNatClampNeg s0)) - (sk_abs (x8 - x2))))] [] _
          refine go_goto (tgt := 39) dX6_weigh_127 (by decide) ?_
          exact (go_wk (l5 c1 c2 c3 c4) (show sk_le _ _ from (And.intro rfl (And.intro rfl (And.intro rfl (And.intro rfl (And.intro rfl (And.intro rfl (And.intro rfl (And.intro rfl (And.intro rfl trivial)))))))))))
theorem k_X6_weigh_135 {x1 x2 x3 x4 x5 x6 x7 x8 s0 : Int32} {hi : Nat → Nat → Int32}
    (o1 : ¬ x5 = (-1000000 : Int32) → vp_in s0 768)
    (l1 : ¬ x5 = (-1000000 : Int32) → Q none ((sk_wi (sk_wi hi 13 (Int32.toNatClampNeg s0) ((x5 + x4) - 1)) 14 (Int32.toNatClampNeg s0) x6), sk_hr rr, sk_ks ++ ex))
    (o2 : x5 = (-1000000 : Int32) → vp_in s0 768)
    (l2 : x5 = (-1000000 : Int32) → Q none ((sk_wi (sk_wi hi 13 (Int32.toNatClampNeg s0) (-1000000)) 14 (Int32.toNatClampNeg s0) x6), sk_hr rr, sk_ks ++ ex)) :
    sk_Go Γ (sk_M Γ m_X6_weigh Q) (0, 0) 135 [some (.ref 12), some (.int x1), some (.int x2), some (.int x3), some (.int x4), some (.int x5), some (.int x6), some (.int x7), some (.int x8), none, none] [.int s0] (hi, sk_hr rr, sk_ks ++ ex) := by
  refine go_istore dX6_weigh_135 (Nat.le_of_ble_eq_true rfl) ?_
  show sk_Go Γ (sk_M Γ m_X6_weigh Q) (0, 0) _ [some (.ref 12), some (.int x1), some (.int x2), some (.int x3), some (.int x4), some (.int x5), some (.int x6), some (.int x7), some (.int s0), none, none] [] _
  refine go_aload_n dX6_weigh_137 rfl ?_
  refine go_getR dX6_weigh_138 fl_X6_9 rfl rfl (show _ = some 13 from rfl) ?_
  refine go_iload dX6_weigh_141 rfl ?_
  refine go_iload dX6_weigh_143 rfl ?_
  refine go_ldc dX6_weigh_145 kc_X6_68 ?_
  refine go_icmp_ne (tgt := 155) dX6_weigh_147 (by decide) (fun c1 => ?_) (fun c1 => ?_)
  · refine go_iload dX6_weigh_155 rfl ?_
    refine go_iload dX6_weigh_157 rfl ?_
    refine go_iadd dX6_weigh_159 ?_
    refine go_iconst dX6_weigh_160 (v := 1) (by decide) ?_
    refine go_isub dX6_weigh_161 ?_
    refine go_iast dX6_weigh_162 (show _ = some (1, 768) from rfl) (o1 c1) ?_
    refine go_aload_n dX6_weigh_163 rfl ?_
    refine go_getR dX6_weigh_164 fl_X6_15 rfl rfl (show _ = some 14 from rfl) ?_
    refine go_iload dX6_weigh_167 rfl ?_
    refine go_iload dX6_weigh_169 rfl ?_
    refine go_iast dX6_weigh_171 (show _ = some (1, 768) from rfl) (o1 c1) ?_
    exact go_vret (μ := m_X6_weigh) dX6_weigh_172 rfl (Nat.le_of_ble_eq_true rfl) (Nat.le_of_ble_eq_true rfl) (l1 c1)
  · refine go_ldc dX6_weigh_150 kc_X6_68 ?_
    refine go_goto (tgt := 162) dX6_weigh_152 (by decide) ?_
    refine go_iast dX6_weigh_162 (show _ = some (1, 768) from rfl) (o2 c1) ?_
    refine go_aload_n dX6_weigh_163 rfl ?_
    refine go_getR dX6_weigh_164 fl_X6_15 rfl rfl (show _ = some 14 from rfl) ?_
    refine go_iload dX6_weigh_167 rfl ?_
    refine go_iload dX6_weigh_169 rfl ?_
    refine go_iast dX6_weigh_171 (show _ = some (1, 768) from rfl) (o2 c1) ?_
    exact go_vret (μ := m_X6_weigh) dX6_weigh_172 rfl (Nat.le_of_ble_eq_true rfl) (Nat.le_of_ble_eq_true rfl) (l2 c1)
theorem k_X6_tryStart_0 {x1 : Int32} {hi : Nat → Nat → Int32}
    (l1 : sk_Go Γ (sk_M Γ m_X6_tryStart Q) (0, 0) 2 [some (.ref 12), some (.int x1), some (.int 0), none, none] [] (hi, sk_hr rr, sk_ks ++ ex)) :
    sk_Go Γ (sk_M Γ m_X6_tryStart Q) (0, 0) 0 [some (.ref 12), some (.int x1), none, none, none] [] (hi, sk_hr rr, sk_ks ++ ex) := by
  refine go_iconst dX6_tryStart_0 (v := 0) (by decide) ?_
  refine go_istore_n dX6_tryStart_1 (Nat.le_of_ble_eq_true rfl) ?_
  show sk_Go Γ (sk_M Γ m_X6_tryStart Q) (0, 0) _ [some (.ref 12), some (.int x1), some (.int 0), none, none] [] _
  exact l1
theorem k_X6_tryStart_2 {x1 x2 : Int32} {hi : Nat → Nat → Int32}
    (l1 : (32 : Int32) ≤ x2 → Q none (hi, sk_hr rr, sk_ks ++ ex))
    (l2 : ¬ (32 : Int32) ≤ x2 → sk_Ct Γ m_X6_placeOf [.int x1, .int x2] (hi, sk_hr rr, sk_ks ++ ex) (fun r h' => sk_Go Γ (sk_M Γ m_X6_tryStart Q) (0, 0) 13 [some (.ref 12), some (.int x1), some (.int x2), none, none] (r.toList ++ []) h')) :
    sk_Go Γ (sk_M Γ m_X6_tryStart Q) (0, 0) 2 [some (.ref 12), some (.int x1), some (.int x2), none, none] [] (hi, sk_hr rr, sk_ks ++ ex) := by
  refine go_iload_n dX6_tryStart_2 rfl ?_
  refine go_bipush dX6_tryStart_3 (v := 32) (by decide) ?_
  refine go_icmp_ge (tgt := 111) dX6_tryStart_5 (by decide) (fun c1 => ?_) (fun c1 => ?_)
  · exact go_vret (μ := m_X6_tryStart) dX6_tryStart_111 rfl (Nat.le_of_ble_eq_true rfl) (Nat.le_of_ble_eq_true rfl) (l1 c1)
  · refine go_iload_n dX6_tryStart_8 rfl ?_
    refine go_iload_n dX6_tryStart_9 rfl ?_
    refine go_callS (μ := m_X6_placeOf) (n := 13) [.int x1, .int x2] dX6_tryStart_10 ok_X6_placeOf ml_X6_53 wx_X6_placeOf rfl (Nat.le_of_ble_eq_true rfl) ⟨Nat.le_of_ble_eq_true rfl, Nat.le_of_ble_eq_true rfl⟩ ⟨Nat.le_of_ble_eq_true rfl, Nat.le_of_ble_eq_true rfl⟩ rfl ?_
    exact (l2 c1)
theorem k_X6_tryStart_13 {x1 x2 s0 : Int32} {hi : Nat → Nat → Int32}
    (o1 : ¬ x1 = (hi 12 4) → vp_in s0 768)
    (o2 : ¬ x1 = (hi 12 4) → (hi 12 3) < (hi 13 (Int32.toNatClampNeg s0)) → vp_in x1 24)
    (l1 : ¬ x1 = (hi 12 4) → (hi 12 3) < (hi 13 (Int32.toNatClampNeg s0)) → sk_Go Γ (sk_M Γ m_X6_tryStart Q) (0, 0) 2 [some (.ref 12), some (.int x1), some (.int (x2 + 1)), none, none] [] ((sk_wi (sk_wi (sk_wi (sk_wi hi 12 3 (hi 13 (Int32.toNatClampNeg s0))) 12 4 x1) 12 5 (hi 14 (Int32.toNatClampNeg s0))) 15 (Int32.toNatClampNeg x1) x2), sk_hr rr, sk_ks ++ ex))
    (l2 : ¬ x1 = (hi 12 4) → ¬ (hi 12 3) < (hi 13 (Int32.toNatClampNeg s0)) → sk_Go Γ (sk_M Γ m_X6_tryStart Q) (0, 0) 2 [some (.ref 12), some (.int x1), some (.int (x2 + 1)), none, none] [] (hi, sk_hr rr, sk_ks ++ ex))
    (o3 : x1 = (hi 12 4) → vp_in s0 768)
    (o4 : x1 = (hi 12 4) → ¬ (hi 13 (Int32.toNatClampNeg s0)) = (hi 12 3) → (hi 12 3) < (hi 13 (Int32.toNatClampNeg s0)) → vp_in x1 24)
    (l3 : x1 = (hi 12 4) → ¬ (hi 13 (Int32.toNatClampNeg s0)) = (hi 12 3) → (hi 12 3) < (hi 13 (Int32.toNatClampNeg s0)) → sk_Go Γ (sk_M Γ m_X6_tryStart Q) (0, 0) 2 [some (.ref 12), some (.int x1), some (.int (x2 + 1)), none, none] [] ((sk_wi (sk_wi (sk_wi (sk_wi hi 12 3 (hi 13 (Int32.toNatClampNeg s0))) 12 4 x1) 12 5 (hi 14 (Int32.toNatClampNeg s0))) 15 (Int32.toNatClampNeg x1) x2), sk_hr rr, sk_ks ++ ex))
    (l4 : x1 = (hi 12 4) → ¬ (hi 13 (Int32.toNatClampNeg s0)) = (hi 12 3) → ¬ (hi 12 3) < (hi 13 (Int32.toNatClampNeg s0)) → sk_Go Γ (sk_M Γ m_X6_tryStart Q) (0, 0) 2 [some (.ref 12), some (.int x1), some (.int (x2 + 1)), none, none] [] (hi, sk_hr rr, sk_ks ++ ex))
    (o5 : x1 = (hi 12 4) → (hi 13 (Int32.toNatClampNeg s0)) = (hi 12 3) → (hi 12 5) ≤ (hi 14 (Int32.toNatClampNeg s0)) → (hi 12 3) < (hi 13 (Int32.toNatClampNeg s0)) → vp_in x1 24)
    (l5 : x1 = (hi 12 4) → (hi 13 (Int32.toNatClampNeg s0)) = (hi 12 3) → (hi 12 5) ≤ (hi 14 (Int32.toNatClampNeg s0)) → (hi 12 3) < (hi 13 (Int32.toNatClampNeg s0)) → sk_Go Γ (sk_M Γ m_X6_tryStart Q) (0, 0) 2 [some (.ref 12), some (.int x1), some (.int (x2 + 1)), none, none] [] ((sk_wi (sk_wi (sk_wi (sk_wi hi 12 3 (hi 13 (Int32.toNatClampNeg s0))) 12 4 x1) 12 5 (hi 14 (Int32.toNatClampNeg s0))) 15 (Int32.toNatClampNeg x1) x2), sk_hr rr, sk_ks ++ ex))
    (l6 : x1 = (hi 12 4) → (hi 13 (Int32.toNatClampNeg s0)) = (hi 12 3) → (hi 12 5) ≤ (hi 14 (Int32.toNatClampNeg s0)) → ¬ (hi 12 3) < (hi 13 (Int32.toNatClampNeg s0)) → sk_Go Γ (sk_M Γ m_X6_tryStart Q) (0, 0) 2 [some (.ref 12), some (.int x1), some (.int (x2 + 1)), none, none] [] (hi, sk_hr rr, sk_ks ++ ex))
    (o6 : x1 = (hi 12 4) → (hi 13 (Int32.toNatClampNeg s0)) = (hi 12 3) → ¬ (hi 12 5) ≤ (hi 14 (Int32.toNatClampNeg s0)) → (hi 12 3) < (hi 13 (Int32.toNatClampNeg s0)) → vp_in x1 24)
    (l7 : x1 = (hi 12 4) → (hi 13 (Int32.toNatClampNeg s0)) = (hi 12 3) → ¬ (hi 12 5) ≤ (hi 14 (Int32.toNatClampNeg s0)) → (hi 12 3) < (hi 13 (Int32.toNatClampNeg s0)) → sk_Go Γ (sk_M Γ m_X6_tryStart Q) (0, 0) 2 [some (.ref 12), some (.int x1), some (.int (x2 + 1)), none, none] [] ((sk_wi (sk_wi (sk_wi (sk_wi hi 12 3 (hi 13 (Int32.toNatClampNeg s0))) 12 4 x1) 12 5 (hi 14 (Int32.toNatClampNeg s0))) 15 (Int32.toNatClampNeg x1) x2), sk_hr rr, sk_ks ++ ex))
    (o7 : x1 = (hi 12 4) → (hi 13 (Int32.toNatClampNeg s0)) = (hi 12 3) → ¬ (hi 12 5) ≤ (hi 14 (Int32.toNatClampNeg s0)) → ¬ (hi 12 3) < (hi 13 (Int32.toNatClampNeg s0)) → vp_in x1 24)
    (l8 : x1 = (hi 12 4) → (hi 13 (Int32.toNatClampNeg s0)) = (hi 12 3) → ¬ (hi 12 5) ≤ (hi 14 (Int32.toNatClampNeg s0)) → ¬ (hi 12 3) < (hi 13 (Int32.toNatClampNeg s0)) → sk_Go Γ (sk_M Γ m_X6_tryStart Q) (0, 0) 2 [some (.ref 12), some (.int x1), some (.int (x2 + 1)), none, none] [] ((sk_wi (sk_wi (sk_wi (sk_wi hi 12 3 (hi 13 (Int32.toNatClampNeg s0))) 12 4 x1) 12 5 (hi 14 (Int32.toNatClampNeg s0))) 15 (Int32.toNatClampNeg x1) x2), sk_hr rr, sk_ks ++ ex)) :
    sk_Go Γ (sk_M Γ m_X6_tryStart Q) (0, 0) 13 [some (.ref 12), some (.int x1), some (.int x2), none, none] [.int s0] (hi, sk_hr rr, sk_ks ++ ex) := by
  refine go_istore_n dX6_tryStart_13 (Nat.le_of_ble_eq_true rfl) ?_
  show sk_Go Γ (sk_M Γ m_X6_tryStart Q) (0, 0) _ [some (.ref 12), some (.int x1), some (.int x2), some (.int s0), none] [] _
  refine go_iload_n dX6_tryStart_14 rfl ?_
  refine go_aload_n dX6_tryStart_15 rfl ?_
  refine go_getI dX6_tryStart_16 fl_X6_25 rfl rfl ?_
  refine go_icmp_ne (tgt := 52) dX6_tryStart_19 (by decide) (fun c1 => ?_) (fun c1 => ?_)
  · refine go_iconst dX6_tryStart_52 (v := 0) (by decide) ?_
    refine go_istore dX6_tryStart_53 (Nat.le_of_ble_eq_true rfl) ?_
    show sk_Go Γ (sk_M Γ m_X6_tryStart Q) (0, 0) _ [some (.ref 12), some (.int x1), some (.int x2), some (.int s0), some (.int 0)] [] _
    refine go_aload_n dX6_tryStart_55 rfl ?_
    refine go_getR dX6_tryStart_56 fl_X6_9 rfl rfl (show _ = some 13 from rfl) ?_
    refine go_iload_n dX6_tryStart_59 rfl ?_
    refine go_iald dX6_tryStart_60 (show _ = some (1, 768) from rfl) (o1 c1) ?_
    refine go_aload_n dX6_tryStart_61 rfl ?_
    refine go_getI dX6_tryStart_62 fl_X6_21 rfl rfl ?_
    refine go_icmp_gt (tgt := 73) dX6_tryStart_65 (by decide) (fun c2 => ?_) (fun c2 => ?_)
    · refine go_aload_n dX6_tryStart_73 rfl ?_
      refine go_aload_n dX6_tryStart_74 rfl ?_
      refine go_getR dX6_tryStart_75 fl_X6_9 rfl rfl (show _ = some 13 from rfl) ?_
      refine go_iload_n dX6_tryStart_78 rfl ?_
      refine go_iald dX6_tryStart_79 (show _ = some (1, 768) from rfl) (o1 c1) ?_
      refine go_putI dX6_tryStart_80 fl_X6_21 rfl rfl ?_
      refine go_aload_n dX6_tryStart_83 rfl ?_
      refine go_iload_n dX6_tryStart_84 rfl ?_
      refine go_putI dX6_tryStart_85 fl_X6_25 rfl rfl ?_
      refine go_aload_n dX6_tryStart_88 rfl ?_
      refine go_aload_n dX6_tryStart_89 rfl ?_
      refine go_getR dX6_tryStart_90 fl_X6_15 rfl rfl (show _ = some 14 from rfl) ?_
      refine go_iload_n dX6_tryStart_93 rfl ?_
      refine go_iald dX6_tryStart_94 (show _ = some (1, 768) from rfl) (o1 c1) ?_
      refine go_putI dX6_tryStart_95 fl_X6_28 rfl rfl ?_
      refine go_aload_n dX6_tryStart_98 rfl ?_
      refine go_getR dX6_tryStart_99 fl_X6_18 rfl rfl (show _ = some 15 from rfl) ?_
      refine go_iload_n dX6_tryStart_102 rfl ?_
      refine go_iload_n dX6_tryStart_103 rfl ?_
      refine go_iast dX6_tryStart_104 (show _ = some (1, 24) from rfl) (o2 c1 c2) ?_
      refine go_iinc (v := x2 + 1) dX6_tryStart_105 rfl rfl (Nat.le_of_ble_eq_true rfl) ?_
      show sk_Go Γ (sk_M Γ m_X6_tryStart Q) (0, 0) _ [some (.ref 12), some (.int x1), some (.int (x2 + 1)), some (.int s0), some (.int 0)] [] _
      refine go_goto (tgt := 2) dX6_tryStart_108 (by decide) ?_
      exact (go_wk (l1 c1 c2) (show sk_le _ _ from (And.intro rfl (And.intro rfl (And.intro rfl trivial)))))
    · refine go_iload dX6_tryStart_68 rfl ?_
      refine go_if_eq (tgt := 105) dX6_tryStart_70 (by decide) (fun _ => ?_) (fun c0 => absurd c0 (by decide))
      refine go_iinc (v := x2 + 1) dX6_tryStart_105 rfl rfl (Nat.le_of_ble_eq_true rfl) ?_
      show sk_Go Γ (sk_M Γ m_X6_tryStart Q) (0, 0) _ [some (.ref 12), some (.int x1), some (.int (x2 + 1)), some (.int s0), some (.int 0)] [] _
      refine go_goto (tgt := 2) dX6_tryStart_108 (by decide) ?_
      exact (go_wk (l2 c1 c2) (show sk_le _ _ from (And.intro rfl (And.intro rfl (And.intro rfl trivial)))))
  · refine go_aload_n dX6_tryStart_22 rfl ?_
    refine go_getR dX6_tryStart_23 fl_X6_9 rfl rfl (show _ = some 13 from rfl) ?_
    refine go_iload_n dX6_tryStart_26 rfl ?_
    refine go_iald dX6_tryStart_27 (show _ = some (1, 768) from rfl) (o3 c1) ?_
    refine go_aload_n dX6_tryStart_28 rfl ?_
    refine go_getI dX6_tryStart_29 fl_X6_21 rfl rfl ?_
    refine go_icmp_ne (tgt := 52) dX6_tryStart_32 (by decide) (fun c2 => ?_) (fun c2 => ?_)
    · refine go_iconst dX6_tryStart_52 (v := 0) (by decide) ?_
      refine go_istore dX6_tryStart_53 (Nat.le_of_ble_eq_true rfl) ?_
      show sk_Go Γ (sk_M Γ m_X6_tryStart Q) (0, 0) _ [some (.ref 12), some (.int x1), some (.int x2), some (.int s0), some (.int 0)] [] _
      refine go_aload_n dX6_tryStart_55 rfl ?_
      refine go_getR dX6_tryStart_56 fl_X6_9 rfl rfl (show _ = some 13 from rfl) ?_
      refine go_iload_n dX6_tryStart_59 rfl ?_
      refine go_iald dX6_tryStart_60 (show _ = some (1, 768) from rfl) (o3 c1) ?_
      refine go_aload_n dX6_tryStart_61 rfl ?_
      refine go_getI dX6_tryStart_62 fl_X6_21 rfl rfl ?_
      refine go_icmp_gt (tgt := 73) dX6_tryStart_65 (by decide) (fun c3 => ?_) (fun c3 => ?_)
      · refine go_aload_n dX6_tryStart_73 rfl ?_
        refine go_aload_n dX6_tryStart_74 rfl ?_
        refine go_getR dX6_tryStart_75 fl_X6_9 rfl rfl (show _ = some 13 from rfl) ?_
        refine go_iload_n dX6_tryStart_78 rfl ?_
        refine go_iald dX6_tryStart_79 (show _ = some (1, 768) from rfl) (o3 c1) ?_
        refine go_putI dX6_tryStart_80 fl_X6_21 rfl rfl ?_
        refine go_aload_n dX6_tryStart_83 rfl ?_
        refine go_iload_n dX6_tryStart_84 rfl ?_
        refine go_putI dX6_tryStart_85 fl_X6_25 rfl rfl ?_
        refine go_aload_n dX6_tryStart_88 rfl ?_
        refine go_aload_n dX6_tryStart_89 rfl ?_
        refine go_getR dX6_tryStart_90 fl_X6_15 rfl rfl (show _ = some 14 from rfl) ?_
        refine go_iload_n dX6_tryStart_93 rfl ?_
        refine go_iald dX6_tryStart_94 (show _ = some (1, 768) from rfl) (o3 c1) ?_
        refine go_putI dX6_tryStart_95 fl_X6_28 rfl rfl ?_
        refine go_aload_n dX6_tryStart_98 rfl ?_
        refine go_getR dX6_tryStart_99 fl_X6_18 rfl rfl (show _ = some 15 from rfl) ?_
        refine go_iload_n dX6_tryStart_102 rfl ?_
        refine go_iload_n dX6_tryStart_103 rfl ?_
        refine go_iast dX6_tryStart_104 (show _ = some (1, 24) from rfl) (o4 c1 c2 c3) ?_
        refine go_iinc (v := x2 + 1) dX6_tryStart_105 rfl rfl (Nat.le_of_ble_eq_true rfl) ?_
        show sk_Go Γ (sk_M Γ m_X6_tryStart Q) (0, 0) _ [some (.ref 12), some (.int x1), some (.int (x2 + 1)), some (.int s0), some (.int 0)] [] _
        refine go_goto (tgt := 2) dX6_tryStart_108 (by decide) ?_
        exact (go_wk (l3 c1 c2 c3) (show sk_le _ _ from (And.intro rfl (And.intro rfl (And.intro rfl trivial)))))
      · refine go_iload dX6_tryStart_68 rfl ?_
        refine go_if_eq (tgt := 105) dX6_tryStart_70 (by decide) (fun _ => ?_) (fun c0 => absurd c0 (by decide))
        refine go_iinc (v := x2 + 1) dX6_tryStart_105 rfl rfl (Nat.le_of_ble_eq_true rfl) ?_
        show sk_Go Γ (sk_M Γ m_X6_tryStart Q) (0, 0) _ [some (.ref 12), some (.int x1), some (.int (x2 + 1)), some (.int s0), some (.int 0)] [] _
        refine go_goto (tgt := 2) dX6_tryStart_108 (by decide) ?_
        exact (go_wk (l4 c1 c2 c3) (show sk_le _ _ from (And.intro rfl (And.intro rfl (And.intro rfl trivial)))))
    · refine go_aload_n dX6_tryStart_35 rfl ?_
      refine go_getR dX6_tryStart_36 fl_X6_15 rfl rfl (show _ = some 14 from rfl) ?_
      refine go_iload_n dX6_tryStart_39 rfl ?_
      refine go_iald dX6_tryStart_40 (show _ = some (1, 768) from rfl) (o3 c1) ?_
      refine go_aload_n dX6_tryStart_41 rfl ?_
      refine go_getI dX6_tryStart_42 fl_X6_28 rfl rfl ?_
      refine go_icmp_ge (tgt := 52) dX6_tryStart_45 (by decide) (fun c3 => ?_) (fun c3 => ?_)
      · refine go_iconst dX6_tryStart_52 (v := 0) (by decide) ?_
        refine go_istore dX6_tryStart_53 (Nat.le_of_ble_eq_true rfl) ?_
        show sk_Go Γ (sk_M Γ m_X6_tryStart Q) (0, 0) _ [some (.ref 12), some (.int x1), some (.int x2), some (.int s0), some (.int 0)] [] _
        refine go_aload_n dX6_tryStart_55 rfl ?_
        refine go_getR dX6_tryStart_56 fl_X6_9 rfl rfl (show _ = some 13 from rfl) ?_
        refine go_iload_n dX6_tryStart_59 rfl ?_
        refine go_iald dX6_tryStart_60 (show _ = some (1, 768) from rfl) (o3 c1) ?_
        refine go_aload_n dX6_tryStart_61 rfl ?_
        refine go_getI dX6_tryStart_62 fl_X6_21 rfl rfl ?_
        refine go_icmp_gt (tgt := 73) dX6_tryStart_65 (by decide) (fun c4 => ?_) (fun c4 => ?_)
        · refine go_aload_n dX6_tryStart_73 rfl ?_
          refine go_aload_n dX6_tryStart_74 rfl ?_
          refine go_getR dX6_tryStart_75 fl_X6_9 rfl rfl (show _ = some 13 from rfl) ?_
          refine go_iload_n dX6_tryStart_78 rfl ?_
          refine go_iald dX6_tryStart_79 (show _ = some (1, 768) from rfl) (o3 c1) ?_
          refine go_putI dX6_tryStart_80 fl_X6_21 rfl rfl ?_
          refine go_aload_n dX6_tryStart_83 rfl ?_
          refine go_iload_n dX6_tryStart_84 rfl ?_
          refine go_putI dX6_tryStart_85 fl_X6_25 rfl rfl ?_
          refine go_aload_n dX6_tryStart_88 rfl ?_
          refine go_aload_n dX6_tryStart_89 rfl ?_
          refine go_getR dX6_tryStart_90 fl_X6_15 rfl rfl (show _ = some 14 from rfl) ?_
          refine go_iload_n dX6_tryStart_93 rfl ?_
          refine go_iald dX6_tryStart_94 (show _ = some (1, 768) from rfl) (o3 c1) ?_
          refine go_putI dX6_tryStart_95 fl_X6_28 rfl rfl ?_
          refine go_aload_n dX6_tryStart_98 rfl ?_
          refine go_getR dX6_tryStart_99 fl_X6_18 rfl rfl (show _ = some 15 from rfl) ?_
          refine go_iload_n dX6_tryStart_102 rfl ?_
          refine go_iload_n dX6_tryStart_103 rfl ?_
          refine go_iast dX6_tryStart_104 (show _ = some (1, 24) from rfl) (o5 c1 c2 c3 c4) ?_
          refine go_iinc (v := x2 + 1) dX6_tryStart_105 rfl rfl (Nat.le_of_ble_eq_true rfl) ?_
          show sk_Go Γ (sk_M Γ m_X6_tryStart Q) (0, 0) _ [some (.ref 12), some (.int x1), some (.int (x2 + 1)), some (.int s0), some (.int 0)] [] _
          refine go_goto (tgt := 2) dX6_tryStart_108 (by decide) ?_
          exact (go_wk (l5 c1 c2 c3 c4) (show sk_le _ _ from (And.intro rfl (And.intro rfl (And.intro rfl trivial)))))
        · refine go_iload dX6_tryStart_68 rfl ?_
          refine go_if_eq (tgt := 105) dX6_tryStart_70 (by decide) (fun _ => ?_) (fun c0 => absurd c0 (by decide))
          refine go_iinc (v := x2 + 1) dX6_tryStart_105 rfl rfl (Nat.le_of_ble_eq_true rfl) ?_
          show sk_Go Γ (sk_M Γ m_X6_tryStart Q) (0, 0) _ [some (.ref 12), some (.int x1), some (.int (x2 + 1)), some (.int s0), some (.int 0)] [] _
          refine go_goto (tgt := 2) dX6_tryStart_108 (by decide) ?_
          exact (go_wk (l6 c1 c2 c3 c4) (show sk_le _ _ from (And.intro rfl (And.intro rfl (And.intro rfl trivial)))))
      · refine go_iconst dX6_tryStart_48 (v := 1) (by decide) ?_
        refine go_goto (tgt := 53) dX6_tryStart_49 (by decide) ?_
        refine go_istore dX6_tryStart_53 (Nat.le_of_ble_eq_true rfl) ?_
        show sk_Go Γ (sk_M Γ m_X6_tryStart Q) (0, 0) _ [some (.ref 12), some (.int x1), some (.int x2), some (.int s0), some (.int 1)] [] _
        refine go_aload_n dX6_tryStart_55 rfl ?_
        refine go_getR dX6_tryStart_56 fl_X6_9 rfl rfl (show _ = some 13 from rfl) ?_
        refine go_iload_n dX6_tryStart_59 rfl ?_
        refine go_iald dX6_tryStart_60 (show _ = some (1, 768) from rfl) (o3 c1) ?_
        refine go_aload_n dX6_tryStart_61 rfl ?_
        refine go_getI dX6_tryStart_62 fl_X6_21 rfl rfl ?_
        refine go_icmp_gt (tgt := 73) dX6_tryStart_65 (by decide) (fun c4 => ?_) (fun c4 => ?_)
        · refine go_aload_n dX6_tryStart_73 rfl ?_
          refine go_aload_n dX6_tryStart_74 rfl ?_
          refine go_getR dX6_tryStart_75 fl_X6_9 rfl rfl (show _ = some 13 from rfl) ?_
          refine go_iload_n dX6_tryStart_78 rfl ?_
          refine go_iald dX6_tryStart_79 (show _ = some (1, 768) from rfl) (o3 c1) ?_
          refine go_putI dX6_tryStart_80 fl_X6_21 rfl rfl ?_
          refine go_aload_n dX6_tryStart_83 rfl ?_
          refine go_iload_n dX6_tryStart_84 rfl ?_
          refine go_putI dX6_tryStart_85 fl_X6_25 rfl rfl ?_
          refine go_aload_n dX6_tryStart_88 rfl ?_
          refine go_aload_n dX6_tryStart_89 rfl ?_
          refine go_getR dX6_tryStart_90 fl_X6_15 rfl rfl (show _ = some 14 from rfl) ?_
          refine go_iload_n dX6_tryStart_93 rfl ?_
          refine go_iald dX6_tryStart_94 (show _ = some (1, 768) from rfl) (o3 c1) ?_
          refine go_putI dX6_tryStart_95 fl_X6_28 rfl rfl ?_
          refine go_aload_n dX6_tryStart_98 rfl ?_
          refine go_getR dX6_tryStart_99 fl_X6_18 rfl rfl (show _ = some 15 from rfl) ?_
          refine go_iload_n dX6_tryStart_102 rfl ?_
          refine go_iload_n dX6_tryStart_103 rfl ?_
          refine go_iast dX6_tryStart_104 (show _ = some (1, 24) from rfl) (o6 c1 c2 c3 c4) ?_
          refine go_iinc (v := x2 + 1) dX6_tryStart_105 rfl rfl (Nat.le_of_ble_eq_true rfl) ?_
          show sk_Go Γ (sk_M Γ m_X6_tryStart Q) (0, 0) _ [some (.ref 12), some (.int x1), some (.int (x2 + 1)), some (.int s0), some (.int 1)] [] _
          refine go_goto (tgt := 2) dX6_tryStart_108 (by decide) ?_
          exact (go_wk (l7 c1 c2 c3 c4) (show sk_le _ _ from (And.intro rfl (And.intro rfl (And.intro rfl trivial)))))
        · refine go_iload dX6_tryStart_68 rfl ?_
          refine go_if_eq (tgt := 105) dX6_tryStart_70 (by decide) (fun c0 => absurd c0 (by decide)) (fun _ => ?_)
          refine go_aload_n dX6_tryStart_73 rfl ?_
          refine go_aload_n dX6_tryStart_74 rfl ?_
          refine go_getR dX6_tryStart_75 fl_X6_9 rfl rfl (show _ = some 13 from rfl) ?_
          refine go_iload_n dX6_tryStart_78 rfl ?_
          refine go_iald dX6_tryStart_79 (show _ = some (1, 768) from rfl) (o3 c1) ?_
          refine go_putI dX6_tryStart_80 fl_X6_21 rfl rfl ?_
          refine go_aload_n dX6_tryStart_83 rfl ?_
          refine go_iload_n dX6_tryStart_84 rfl ?_
          refine go_putI dX6_tryStart_85 fl_X6_25 rfl rfl ?_
          refine go_aload_n dX6_tryStart_88 rfl ?_
          refine go_aload_n dX6_tryStart_89 rfl ?_
          refine go_getR dX6_tryStart_90 fl_X6_15 rfl rfl (show _ = some 14 from rfl) ?_
          refine go_iload_n dX6_tryStart_93 rfl ?_
          refine go_iald dX6_tryStart_94 (show _ = some (1, 768) from rfl) (o3 c1) ?_
          refine go_putI dX6_tryStart_95 fl_X6_28 rfl rfl ?_
          refine go_aload_n dX6_tryStart_98 rfl ?_
          refine go_getR dX6_tryStart_99 fl_X6_18 rfl rfl (show _ = some 15 from rfl) ?_
          refine go_iload_n dX6_tryStart_102 rfl ?_
          refine go_iload_n dX6_tryStart_103 rfl ?_
          refine go_iast dX6_tryStart_104 (show _ = some (1, 24) from rfl) (o7 c1 c2 c3 c4) ?_
          refine go_iinc (v := x2 + 1) dX6_tryStart_105 rfl rfl (Nat.le_of_ble_eq_true rfl) ?_
          show sk_Go Γ (sk_M Γ m_X6_tryStart Q) (0, 0) _ [some (.ref 12), some (.int x1), some (.int (x2 + 1)), some (.int s0), some (.int 1)] [] _
          refine go_goto (tgt := 2) dX6_tryStart_108 (by decide) ?_
          exact (go_wk (l8 c1 c2 c3 c4) (show sk_le _ _ from (And.intro rfl (And.intro rfl (And.intro rfl trivial)))))
theorem k_X6_chooseStart_0 {x2 : Int32} {hi : Nat → Nat → Int32}
    (l1 : sk_Go Γ (sk_M Γ m_X6_chooseStart Q) (0, 0) 17 [some (.ref 12), some (.ref 2), some (.int x2), some (.int 0)] [] ((sk_wi (sk_wi (sk_wi hi 12 3 0) 12 4 (-1)) 12 5 (-1)), sk_hr rr, sk_ks ++ ex)) :
    sk_Go Γ (sk_M Γ m_X6_chooseStart Q) (0, 0) 0 [some (.ref 12), some (.ref 2), some (.int x2), none] [] (hi, sk_hr rr, sk_ks ++ ex) := by
  refine go_aload_n dX6_chooseStart_0 rfl ?_
  refine go_iconst dX6_chooseStart_1 (v := 0) (by decide) ?_
  refine go_putI dX6_chooseStart_2 fl_X6_21 rfl rfl ?_
  refine go_aload_n dX6_chooseStart_5 rfl ?_
  refine go_iconst dX6_chooseStart_6 (v := (-1)) (by decide) ?_
  refine go_putI dX6_chooseStart_7 fl_X6_25 rfl rfl ?_
  refine go_aload_n dX6_chooseStart_10 rfl ?_
  refine go_iconst dX6_chooseStart_11 (v := (-1)) (by decide) ?_
  refine go_putI dX6_chooseStart_12 fl_X6_28 rfl rfl ?_
  refine go_iconst dX6_chooseStart_15 (v := 0) (by decide) ?_
  refine go_istore_n dX6_chooseStart_16 (Nat.le_of_ble_eq_true rfl) ?_
  show sk_Go Γ (sk_M Γ m_X6_chooseStart Q) (0, 0) _ [some (.ref 12), some (.ref 2), some (.int x2), some (.int 0)] [] _
  exact l1
theorem k_X6_chooseStart_17 {x2 x3 : Int32} {hi : Nat → Nat → Int32}
    (l1 : (24 : Int32) ≤ x3 → Q none (hi, sk_hr rr, sk_ks ++ ex))
    (l2 : ¬ (24 : Int32) ≤ x3 → sk_Ct Γ m_X0_isBarred [.ref 2, .int x2, .int x3] (hi, sk_hr rr, sk_ks ++ ex) (fun r h' => sk_Go Γ (sk_M Γ m_X6_chooseStart Q) (0, 0) 29 [some (.ref 12), some (.ref 2), some (.int x2), some (.int x3)] (r.toList ++ []) h')) :
    sk_Go Γ (sk_M Γ m_X6_chooseStart Q) (0, 0) 17 [some (.ref 12), some (.ref 2), some (.int x2), some (.int x3)] [] (hi, sk_hr rr, sk_ks ++ ex) := by
  refine go_iload_n dX6_chooseStart_17 rfl ?_
  refine go_bipush dX6_chooseStart_18 (v := 24) (by decide) ?_
  refine go_icmp_ge (tgt := 43) dX6_chooseStart_20 (by decide) (fun c1 => ?_) (fun c1 => ?_)
  · exact go_vret (μ := m_X6_chooseStart) dX6_chooseStart_43 rfl (Nat.le_of_ble_eq_true rfl) (Nat.le_of_ble_eq_true rfl) (l1 c1)
  · refine go_aload_n dX6_chooseStart_23 rfl ?_
    refine go_iload_n dX6_chooseStart_24 rfl ?_
    refine go_iload_n dX6_chooseStart_25 rfl ?_
    refine go_callV (μ := m_X0_isBarred) (n := 29) (T := TX0) (N := 5) [.int x2, .int x3] dX6_chooseStart_26 ok_X0_isBarred ml_X6_35 wx_X0_isBarred wl_X0_isBarred (show _ = some (0, 0) from rfl) rfl rfl (Nat.le_of_ble_eq_true rfl) ⟨Nat.le_of_ble_eq_true rfl, Nat.le_of_ble_eq_true rfl⟩ ⟨Nat.le_of_ble_eq_true rfl, Nat.le_of_ble_eq_true rfl⟩ rfl ?_
    exact (l2 c1)
theorem k_X6_chooseStart_29 {x2 x3 s0 : Int32} {hi : Nat → Nat → Int32}
    (l1 : ¬ s0 = (0 : Int32) → sk_Go Γ (sk_M Γ m_X6_chooseStart Q) (0, 0) 37 [some (.ref 12), some (.ref 2), some (.int x2), some (.int x3)] [] (hi, sk_hr rr, sk_ks ++ ex))
    (l2 : s0 = (0 : Int32) → sk_Ct Γ m_X6_tryStart [.ref 12, .int x3] (hi, sk_hr rr, sk_ks ++ ex) (fun r h' => sk_Go Γ (sk_M Γ m_X6_chooseStart Q) (0, 0) 37 [some (.ref 12), some (.ref 2), some (.int x2), some (.int x3)] (r.toList ++ []) h')) :
    sk_Go Γ (sk_M Γ m_X6_chooseStart Q) (0, 0) 29 [some (.ref 12), some (.ref 2), some (.int x2), some (.int x3)] [.int s0] (hi, sk_hr rr, sk_ks ++ ex) := by
  refine go_if_ne (tgt := 37) dX6_chooseStart_29 (by decide) (fun c1 => ?_) (fun c1 => ?_)
  · exact (l1 c1)
  · refine go_aload_n dX6_chooseStart_32 rfl ?_
    refine go_iload_n dX6_chooseStart_33 rfl ?_
    refine go_callV (μ := m_X6_tryStart) (n := 37) (T := TX6) (N := 6) [.int x3] dX6_chooseStart_34 ok_X6_tryStart ml_X6_79 wx_X6_tryStart wl_X6_tryStart (show _ = some (0, 5) from rfl) rfl rfl (Nat.le_of_ble_eq_true rfl) ⟨Nat.le_of_ble_eq_true rfl, Nat.le_of_ble_eq_true rfl⟩ ⟨Nat.le_of_ble_eq_true rfl, Nat.le_of_ble_eq_true rfl⟩ rfl ?_
    exact (l2 c1)
theorem k_X6_chooseStart_37 {x2 x3 : Int32} {hi : Nat → Nat → Int32}
    (l1 : sk_Go Γ (sk_M Γ m_X6_chooseStart Q) (0, 0) 17 [some (.ref 12), some (.ref 2), some (.int x2), some (.int (x3 + 1))] [] (hi, sk_hr rr, sk_ks ++ ex)) :
    sk_Go Γ (sk_M Γ m_X6_chooseStart Q) (0, 0) 37 [some (.ref 12), some (.ref 2), some (.int x2), some (.int x3)] [] (hi, sk_hr rr, sk_ks ++ ex) := by
  refine go_iinc (v := x3 + 1) dX6_chooseStart_37 rfl rfl (Nat.le_of_ble_eq_true rfl) ?_
  show sk_Go Γ (sk_M Γ m_X6_chooseStart Q) (0, 0) _ [some (.ref 12), some (.ref 2), some (.int x2), some (.int (x3 + 1))] [] _
  refine go_goto (tgt := 17) dX6_chooseStart_40 (by decide) ?_
  exact l1
theorem k_X6_nextHeight_0 {x1 x2 x3 : Int32} {hi : Nat → Nat → Int32}
    (l1 : sk_Ct Γ m_X6_highest [.int x2] (hi, sk_hr rr, sk_ks ++ ex) (fun r h' => sk_Go Γ (sk_M Γ m_X6_nextHeight Q) (0, 0) 4 [some (.ref 12), some (.int x1), some (.int x2), some (.int x3), none, none, none] (r.toList ++ []) h')) :
    sk_Go Γ (sk_M Γ m_X6_nextHeight Q) (0, 0) 0 [some (.ref 12), some (.int x1), some (.int x2), some (.int x3), none, none, none] [] (hi, sk_hr rr, sk_ks ++ ex) := by
  refine go_iload_n dX6_nextHeight_0 rfl ?_
  refine go_callS (μ := m_X6_highest) (n := 4) [.int x2] dX6_nextHeight_1 ok_X6_highest ml_X6_69 wx_X6_highest rfl (Nat.le_of_ble_eq_true rfl) ⟨Nat.le_of_ble_eq_true rfl, Nat.le_of_ble_eq_true rfl⟩ ⟨Nat.le_of_ble_eq_true rfl, Nat.le_of_ble_eq_true rfl⟩ rfl ?_
  exact l1
theorem k_X6_nextHeight_4 {x1 x2 x3 s0 : Int32} {hi : Nat → Nat → Int32}
    (l1 : sk_Ct Γ m_X6_lowest [.int x2] (hi, sk_hr rr, sk_ks ++ ex) (fun r h' => sk_Go Γ (sk_M Γ m_X6_nextHeight Q) (0, 0) 10 [some (.ref 12), some (.int x1), some (.int x2), some (.int x3), some (.int s0), none, none] (r.toList ++ []) h')) :
    sk_Go Γ (sk_M Γ m_X6_nextHeight Q) (0, 0) 4 [some (.ref 12), some (.int x1), some (.int x2), some (.int x3), none, none, none] [.int s0] (hi, sk_hr rr, sk_ks ++ ex) := by
  refine go_istore dX6_nextHeight_4 (Nat.le_of_ble_eq_true rfl) ?_
  show sk_Go Γ (sk_M Γ m_X6_nextHeight Q) (0, 0) _ [some (.ref 12), some (.int x1), some (.int x2), some (.int x3), some (.int s0), none, none] [] _
  refine go_iload_n dX6_nextHeight_6 rfl ?_
  refine go_callS (μ := m_X6_lowest) (n := 10) [.int x2] dX6_nextHeight_7 ok_X6_lowest ml_X6_73 wx_X6_lowest rfl (Nat.le_of_ble_eq_true rfl) ⟨Nat.le_of_ble_eq_true rfl, Nat.le_of_ble_eq_true rfl⟩ ⟨Nat.le_of_ble_eq_true rfl, Nat.le_of_ble_eq_true rfl⟩ rfl ?_
  exact l1
theorem k_X6_nextHeight_10 {x1 x2 x3 x4 s0 : Int32} {hi : Nat → Nat → Int32}
    (l1 : sk_Go Γ (sk_M Γ m_X6_nextHeight Q) (0, 0) 12 [some (.ref 12), some (.int x1), some (.int x2), some (.int x3), some (.int x4), some (.int s0), none] [] (hi, sk_hr rr, sk_ks ++ ex)) :
    sk_Go Γ (sk_M Γ m_X6_nextHeight Q) (0, 0) 10 [some (.ref 12), some (.int x1), some (.int x2), some (.int x3), some (.int x4), none, none] [.int s0] (hi, sk_hr rr, sk_ks ++ ex) := by
  refine go_istore dX6_nextHeight_10 (Nat.le_of_ble_eq_true rfl) ?_
  show sk_Go Γ (sk_M Γ m_X6_nextHeight Q) (0, 0) _ [some (.ref 12), some (.int x1), some (.int x2), some (.int x3), some (.int x4), some (.int s0), none] [] _
  exact l1
theorem k_X6_nextHeight_12 {x1 x2 x3 x4 x5 : Int32} {hi : Nat → Nat → Int32}
    (l1 : x4 < x5 → Q (some (.int x2)) (hi, sk_hr rr, sk_ks ++ ex))
    (l2 : ¬ x4 < x5 → sk_Ct Γ m_X6_placeOf [.int x1, .int x5] (hi, sk_hr rr, sk_ks ++ ex) (fun r h' => sk_Go Γ (sk_M Γ m_X6_nextHeight Q) (0, 0) 25 [some (.ref 12), some (.int x1), some (.int x2), some (.int x3), some (.int x4), some (.int x5), none] (r.toList ++ []) h')) :
    sk_Go Γ (sk_M Γ m_X6_nextHeight Q) (0, 0) 12 [some (.ref 12), some (.int x1), some (.int x2), some (.int x3), some (.int x4), some (.int x5), none] [] (hi, sk_hr rr, sk_ks ++ ex) := by
  refine go_iload dX6_nextHeight_12 rfl ?_
  refine go_iload dX6_nextHeight_14 rfl ?_
  refine go_icmp_gt (tgt := 69) dX6_nextHeight_16 (by decide) (fun c1 => ?_) (fun c1 => ?_)
  · refine go_iload_n dX6_nextHeight_69 rfl ?_
    exact go_iret (μ := m_X6_nextHeight) dX6_nextHeight_70 rfl (Nat.le_of_ble_eq_true rfl) (Nat.le_of_ble_eq_true rfl) (l1 c1)
  · refine go_iload_n dX6_nextHeight_19 rfl ?_
    refine go_iload dX6_nextHeight_20 rfl ?_
    refine go_callS (μ := m_X6_placeOf) (n := 25) [.int x1, .int x5] dX6_nextHeight_22 ok_X6_placeOf ml_X6_53 wx_X6_placeOf rfl (Nat.le_of_ble_eq_true rfl) ⟨Nat.le_of_ble_eq_true rfl, Nat.le_of_ble_eq_true rfl⟩ ⟨Nat.le_of_ble_eq_true rfl, Nat.le_of_ble_eq_true rfl⟩ rfl ?_
    exact (l2 c1)
theorem k_X6_nextHeight_25 {x1 x2 x3 x4 x5 s0 : Int32} {hi : Nat → Nat → Int32}
    (o1 : vp_in s0 768)
    (l1 : ¬ ((hi 13 (Int32.toNatClampNeg s0)) - (sk_abs (x5 - x2))) = x3 → sk_Go Γ (sk_M Γ m_X6_nextHeight Q) (0, 0) 12 [some (.ref 12), some (.int x1), some (.int x2), some (.int x3), some (.int x4), some (.int (x5 + 1)), none] [] (hi, sk_hr rr, sk_ks ++ ex))
    (l2 : ((hi 13 (Int32.toNatClampNeg s0)) - (sk_abs (x5 - x2))) = x3 → ¬ (hi 14 (Int32.toNatClampNeg s0)) = (hi 12 5) → sk_Go Γ (sk_M Γ m_X6_nextHeight Q) (0, 0) 12 [some (.ref 12), some (.int x1), some (.int x2), some (.int x3), some (.int x4), some (.int (x5 + 1)), none] [] (hi, sk_hr rr, sk_ks ++ ex))
    (l3 : ((hi 13 (Int32.toNatClampNeg s0)) - (sk_abs (x5 - x2))) = x3 → (hi 14 (Int32.toNatClampNeg s0)) = (hi 12 5) → Q (some (.int x5)) (hi, sk_hr rr, sk_ks ++ ex)) :
    sk_Go Γ (sk_M Γ m_X6_nextHeight Q) (0, 0) 25 [some (.ref 12), some (.int x1), some (.int x2), some (.int x3), some (.int x4), some (.int x5), none] [.int s0] (hi, sk_hr rr, sk_ks ++ ex) := by
  refine go_istore dX6_nextHeight_25 (Nat.le_of_ble_eq_true rfl) ?_
  show sk_Go Γ (sk_M Γ m_X6_nextHeight Q) (0, 0) _ [some (.ref 12), some (.int x1), some (.int x2), some (.int x3), some (.int x4), some (.int x5), some (.int s0)] [] _
  refine go_aload_n dX6_nextHeight_27 rfl ?_
  refine go_getR dX6_nextHeight_28 fl_X6_9 rfl rfl (show _ = some 13 from rfl) ?_
  refine go_iload dX6_nextHeight_31 rfl ?_
  refine go_iald dX6_nextHeight_33 (show _ = some (1, 768) from rfl) o1 ?_
  refine go_iload dX6_nextHeight_34 rfl ?_
  refine go_iload_n dX6_nextHeight_36 rfl ?_
  refine go_isub dX6_nextHeight_37 ?_
  refine go_mabs (n := 41) dX6_nextHeight_38 ml_X6_76 (Nat.le_of_ble_eq_true rfl) (Nat.le_of_ble_eq_true rfl) ⟨Nat.le_of_ble_eq_true rfl, Nat.le_of_ble_eq_true rfl⟩ rfl ?_
  refine go_isub dX6_nextHeight_41 ?_
  refine go_iload_n dX6_nextHeight_42 rfl ?_
  refine go_icmp_ne (tgt := 63) dX6_nextHeight_43 (by decide) (fun c1 => ?_) (fun c1 => ?_)
  · refine go_iinc (v := x5 + 1) dX6_nextHeight_63 rfl rfl (Nat.le_of_ble_eq_true rfl) ?_
    show sk_Go Γ (sk_M Γ m_X6_nextHeight Q) (0, 0) _ [some (.ref 12), some (.int x1), some (.int x2), some (.int x3), some (.int x4), some (.int (x5 + 1)), some (.int s0)] [] _
    refine go_goto (tgt := 12) dX6_nextHeight_66 (by decide) ?_
    exact (go_wk (l1 c1) (show sk_le _ _ from (And.intro rfl (And.intro rfl (And.intro rfl (And.intro rfl (And.intro rfl (And.intro rfl trivial))))))))
  · refine go_aload_n dX6_nextHeight_46 rfl ?_
    refine go_getR dX6_nextHeight_47 fl_X6_15 rfl rfl (show _ = some 14 from rfl) ?_
    refine go_iload dX6_nextHeight_50 rfl ?_
    refine go_iald dX6_nextHeight_52 (show _ = some (1, 768) from rfl) o1 ?_
    refine go_aload_n dX6_nextHeight_53 rfl ?_
    refine go_getI dX6_nextHeight_54 fl_X6_28 rfl rfl ?_
    refine go_icmp_ne (tgt := 63) dX6_nextHeight_57 (by decide) (fun c2 => ?_) (fun c2 => ?_)
    · refine go_iinc (v := x5 + 1) dX6_nextHeight_63 rfl rfl (Nat.le_of_ble_eq_true rfl) ?_
      show sk_Go Γ (sk_M Γ m_X6_nextHeight Q) (0, 0) _ [some (.ref 12), some (.int x1), some (.int x2), some (.int x3), some (.int x4), some (.int (x5 + 1)), some (.int s0)] [] _
      refine go_goto (tgt := 12) dX6_nextHeight_66 (by decide) ?_
      exact (go_wk (l2 c1 c2) (show sk_le _ _ from (And.intro rfl (And.intro rfl (And.intro rfl (And.intro rfl (And.intro rfl (And.intro rfl trivial))))))))
    · refine go_iload dX6_nextHeight_60 rfl ?_
      exact go_iret (μ := m_X6_nextHeight) dX6_nextHeight_62 rfl (Nat.le_of_ble_eq_true rfl) (Nat.le_of_ble_eq_true rfl) (l3 c1 c2)
theorem k_X6_find_0 {x2 : Int32} {hi : Nat → Nat → Int32}
    (l1 : sk_Go Γ (sk_M Γ m_X6_find Q) (0, 0) 3 [some (.ref 12), some (.ref 2), some (.int x2), some (.int 23), none, none] [] (hi, sk_hr rr, sk_ks ++ ex)) :
    sk_Go Γ (sk_M Γ m_X6_find Q) (0, 0) 0 [some (.ref 12), some (.ref 2), some (.int x2), none, none, none] [] (hi, sk_hr rr, sk_ks ++ ex) := by
  refine go_bipush dX6_find_0 (v := 23) (by decide) ?_
  refine go_istore_n dX6_find_2 (Nat.le_of_ble_eq_true rfl) ?_
  show sk_Go Γ (sk_M Γ m_X6_find Q) (0, 0) _ [some (.ref 12), some (.ref 2), some (.int x2), some (.int 23), none, none] [] _
  exact l1
theorem k_X6_find_3 {x2 x3 : Int32} {hi : Nat → Nat → Int32}
    (l1 : x3 < (0 : Int32) → sk_Ct Γ m_X6_chooseStart [.ref 12, .ref 2, .int x2] (hi, sk_hr rr, sk_ks ++ ex) (fun r h' => sk_Go Γ (sk_M Γ m_X6_find Q) (0, 0) 68 [some (.ref 12), some (.ref 2), some (.int x2), some (.int x3), none, none] (r.toList ++ []) h'))
    (l2 : ¬ x3 < (0 : Int32) → sk_Ct Γ m_X0_isBarred [.ref 2, .int x2, .int x3] (hi, sk_hr rr, sk_ks ++ ex) (fun r h' => sk_Go Γ (sk_M Γ m_X6_find Q) (0, 0) 13 [some (.ref 12), some (.ref 2), some (.int x2), some (.int x3), none, none] (r.toList ++ []) h')) :
    sk_Go Γ (sk_M Γ m_X6_find Q) (0, 0) 3 [some (.ref 12), some (.ref 2), some (.int x2), some (.int x3), none, none] [] (hi, sk_hr rr, sk_ks ++ ex) := by
  refine go_iload_n dX6_find_3 rfl ?_
  refine go_if_lt (tgt := 62) dX6_find_4 (by decide) (fun c1 => ?_) (fun c1 => ?_)
  · refine go_aload_n dX6_find_62 rfl ?_
    refine go_aload_n dX6_find_63 rfl ?_
    refine go_iload_n dX6_find_64 rfl ?_
    refine go_callV (μ := m_X6_chooseStart) (n := 68) (T := TX6) (N := 6) [.ref 2, .int x2] dX6_find_65 ok_X6_chooseStart ml_X6_49 wx_X6_chooseStart wl_X6_chooseStart (show _ = some (0, 5) from rfl) rfl rfl (Nat.le_of_ble_eq_true rfl) ⟨Nat.le_of_ble_eq_true rfl, Nat.le_of_ble_eq_true rfl⟩ ⟨Nat.le_of_ble_eq_true rfl, Nat.le_of_ble_eq_true rfl⟩ rfl ?_
    exact (l1 c1)
  · refine go_aload_n dX6_find_7 rfl ?_
    refine go_iload_n dX6_find_8 rfl ?_
    refine go_iload_n dX6_find_9 rfl ?_
    refine go_callV (μ := m_X0_isBarred) (n := 13) (T := TX0) (N := 5) [.int x2, .int x3] dX6_find_10 ok_X0_isBarred ml_X6_35 wx_X0_isBarred wl_X0_isBarred (show _ = some (0, 0) from rfl) rfl rfl (Nat.le_of_ble_eq_true rfl) ⟨Nat.le_of_ble_eq_true rfl, Nat.le_of_ble_eq_true rfl⟩ ⟨Nat.le_of_ble_eq_true rfl, Nat.le_of_ble_eq_true rfl⟩ rfl ?_
    exact (l2 c1)
theorem k_X6_find_13 {x2 x3 s0 : Int32} {hi : Nat → Nat → Int32}
    (l1 : ¬ s0 = (0 : Int32) → sk_Go Γ (sk_M Γ m_X6_find Q) (0, 0) 26 [some (.ref 12), some (.ref 2), some (.int x2), some (.int x3), some (.int 0), some (.int 0)] [] (hi, sk_hr rr, sk_ks ++ ex))
    (l2 : s0 = (0 : Int32) → sk_Go Γ (sk_M Γ m_X6_find Q) (0, 0) 26 [some (.ref 12), some (.ref 2), some (.int x2), some (.int x3), some (.int 1), some (.int 0)] [] (hi, sk_hr rr, sk_ks ++ ex)) :
    sk_Go Γ (sk_M Γ m_X6_find Q) (0, 0) 13 [some (.ref 12), some (.ref 2), some (.int x2), some (.int x3), none, none] [.int s0] (hi, sk_hr rr, sk_ks ++ ex) := by
  refine go_if_ne (tgt := 20) dX6_find_13 (by decide) (fun c1 => ?_) (fun c1 => ?_)
  · refine go_iconst dX6_find_20 (v := 0) (by decide) ?_
    refine go_istore dX6_find_21 (Nat.le_of_ble_eq_true rfl) ?_
    show sk_Go Γ (sk_M Γ m_X6_find Q) (0, 0) _ [some (.ref 12), some (.ref 2), some (.int x2), some (.int x3), some (.int 0), none] [] _
    refine go_iconst dX6_find_23 (v := 0) (by decide) ?_
    refine go_istore dX6_find_24 (Nat.le_of_ble_eq_true rfl) ?_
    show sk_Go Γ (sk_M Γ m_X6_find Q) (0, 0) _ [some (.ref 12), some (.ref 2), some (.int x2), some (.int x3), some (.int 0), some (.int 0)] [] _
    exact (l1 c1)
  · refine go_iconst dX6_find_16 (v := 1) (by decide) ?_
    refine go_goto (tgt := 21) dX6_find_17 (by decide) ?_
    refine go_istore dX6_find_21 (Nat.le_of_ble_eq_true rfl) ?_
    show sk_Go Γ (sk_M Γ m_X6_find Q) (0, 0) _ [some (.ref 12), some (.ref 2), some (.int x2), some (.int x3), some (.int 1), none] [] _
    refine go_iconst dX6_find_23 (v := 0) (by decide) ?_
    refine go_istore dX6_find_24 (Nat.le_of_ble_eq_true rfl) ?_
    show sk_Go Γ (sk_M Γ m_X6_find Q) (0, 0) _ [some (.ref 12), some (.ref 2), some (.int x2), some (.int x3), some (.int 1), some (.int 0)] [] _
    exact (l2 c1)
theorem k_X6_find_26 {x2 x3 x4 x5 : Int32} {hi : Nat → Nat → Int32}
    (l1 : (32 : Int32) ≤ x5 → sk_Go Γ (sk_M Γ m_X6_find Q) (0, 0) 3 [some (.ref 12), some (.ref 2), some (.int x2), some (.int (x3 + (-1))), none, none] [] (hi, sk_hr rr, sk_ks ++ ex))
    (l2 : ¬ (32 : Int32) ≤ x5 → sk_Ct Γ m_X0_worthAt [.ref 2, .int x2, .int x3, .int x5] (hi, sk_hr rr, sk_ks ++ ex) (fun r h' => sk_Go Γ (sk_M Γ m_X6_find Q) (0, 0) 47 [some (.ref 12), some (.ref 2), some (.int x2), some (.int x3), some (.int x4), some (.int x5)] (r.toList ++ [.int x4, .int x5, .int x3, .ref 12]) h')) :
    sk_Go Γ (sk_M Γ m_X6_find Q) (0, 0) 26 [some (.ref 12), some (.ref 2), some (.int x2), some (.int x3), some (.int x4), some (.int x5)] [] (hi, sk_hr rr, sk_ks ++ ex) := by
  refine go_iload dX6_find_26 rfl ?_
  refine go_bipush dX6_find_28 (v := 32) (by decide) ?_
  refine go_icmp_ge (tgt := 56) dX6_find_30 (by decide) (fun c1 => ?_) (fun c1 => ?_)
  · refine go_iinc (v := x3 + (-1)) dX6_find_56 rfl (by rw [show Int32.ofInt (-1) = -1 by decide]) (Nat.le_of_ble_eq_true rfl) ?_
    show sk_Go Γ (sk_M Γ m_X6_find Q) (0, 0) _ [some (.ref 12), some (.ref 2), some (.int x2), some (.int (x3 + (-1))), some (.int x4), some (.int x5)] [] _
    refine go_goto (tgt := 3) dX6_find_59 (by decide) ?_
    exact (go_wk (l1 c1) (show sk_le _ _ from (And.intro rfl (And.intro rfl (And.intro rfl (And.intro rfl trivial))))))
  · refine go_aload_n dX6_find_33 rfl ?_
    refine go_iload_n dX6_find_34 rfl ?_
    refine go_iload dX6_find_35 rfl ?_
    refine go_iload dX6_find_37 rfl ?_
    refine go_aload_n dX6_find_39 rfl ?_
    refine go_iload_n dX6_find_40 rfl ?_
    refine go_iload_n dX6_find_41 rfl ?_
    refine go_iload dX6_find_42 rfl ?_
    refine go_callV (μ := m_X0_worthAt) (n := 47) (T := TX0) (N := 5) [.int x2, .int x3, .int x5] dX6_find_44 ok_X0_worthAt ml_X6_41 wx_X0_worthAt wl_X0_worthAt (show _ = some (0, 0) from rfl) rfl rfl (Nat.le_of_ble_eq_true rfl) ⟨Nat.le_of_ble_eq_true rfl, Nat.le_of_ble_eq_true rfl⟩ ⟨Nat.le_of_ble_eq_true rfl, Nat.le_of_ble_eq_true rfl⟩ rfl ?_
    exact (l2 c1)
theorem k_X6_find_47 {x2 x3 x4 x5 s4 s3 s2 s1 : Int32} {hi : Nat → Nat → Int32}
    (l1 : sk_Ct Γ m_X6_weigh [.ref 12, .int s1, .int s2, .int s3, .int s4] (hi, sk_hr rr, sk_ks ++ ex) (fun r h' => sk_Go Γ (sk_M Γ m_X6_find Q) (0, 0) 50 [some (.ref 12), some (.ref 2), some (.int x2), some (.int x3), some (.int x4), some (.int x5)] (r.toList ++ []) h')) :
    sk_Go Γ (sk_M Γ m_X6_find Q) (0, 0) 47 [some (.ref 12), some (.ref 2), some (.int x2), some (.int x3), some (.int x4), some (.int x5)] [.int s4, .int s3, .int s2, .int s1, .ref 12] (hi, sk_hr rr, sk_ks ++ ex) := by
  refine go_callV (μ := m_X6_weigh) (n := 50) (T := TX6) (N := 6) [.int s1, .int s2, .int s3, .int s4] dX6_find_47 ok_X6_weigh ml_X6_45 wx_X6_weigh wl_X6_weigh (show _ = some (0, 5) from rfl) rfl rfl (Nat.le_of_ble_eq_true rfl) ⟨Nat.le_of_ble_eq_true rfl, Nat.le_of_ble_eq_true rfl⟩ ⟨Nat.le_of_ble_eq_true rfl, Nat.le_of_ble_eq_true rfl⟩ rfl ?_
  exact l1
theorem k_X6_find_50 {x2 x3 x4 x5 : Int32} {hi : Nat → Nat → Int32}
    (l1 : sk_Go Γ (sk_M Γ m_X6_find Q) (0, 0) 26 [some (.ref 12), some (.ref 2), some (.int x2), some (.int x3), some (.int x4), some (.int (x5 + 1))] [] (hi, sk_hr rr, sk_ks ++ ex)) :
    sk_Go Γ (sk_M Γ m_X6_find Q) (0, 0) 50 [some (.ref 12), some (.ref 2), some (.int x2), some (.int x3), some (.int x4), some (.int x5)] [] (hi, sk_hr rr, sk_ks ++ ex) := by
  refine go_iinc (v := x5 + 1) dX6_find_50 rfl rfl (Nat.le_of_ble_eq_true rfl) ?_
  show sk_Go Γ (sk_M Γ m_X6_find Q) (0, 0) _ [some (.ref 12), some (.ref 2), some (.int x2), some (.int x3), some (.int x4), some (.int (x5 + 1))] [] _
  refine go_goto (tgt := 26) dX6_find_53 (by decide) ?_
  exact l1
theorem k_X6_find_68 {x2 x3 : Int32} {hi : Nat → Nat → Int32}
    (l1 : sk_Go Γ (sk_M Γ m_X6_find Q) (0, 0) 73 [some (.ref 12), some (.ref 2), some (.int x2), some (.int (hi 12 4)), none, none] [] (hi, sk_hr rr, sk_ks ++ ex)) :
    sk_Go Γ (sk_M Γ m_X6_find Q) (0, 0) 68 [some (.ref 12), some (.ref 2), some (.int x2), some (.int x3), none, none] [] (hi, sk_hr rr, sk_ks ++ ex) := by
  refine go_aload_n dX6_find_68 rfl ?_
  refine go_getI dX6_find_69 fl_X6_25 rfl rfl ?_
  refine go_istore_n dX6_find_72 (Nat.le_of_ble_eq_true rfl) ?_
  show sk_Go Γ (sk_M Γ m_X6_find Q) (0, 0) _ [some (.ref 12), some (.ref 2), some (.int x2), some (.int (hi 12 4)), none, none] [] _
  exact l1
theorem k_X6_find_73 {x2 x3 : Int32} {hi : Nat → Nat → Int32}
    (l1 : sk_Ct Γ m_X6_isFound [.ref 12] (hi, sk_hr rr, sk_ks ++ ex) (fun r h' => sk_Go Γ (sk_M Γ m_X6_find Q) (0, 0) 77 [some (.ref 12), some (.ref 2), some (.int x2), some (.int x3), none, none] (r.toList ++ []) h')) :
    sk_Go Γ (sk_M Γ m_X6_find Q) (0, 0) 73 [some (.ref 12), some (.ref 2), some (.int x2), some (.int x3), none, none] [] (hi, sk_hr rr, sk_ks ++ ex) := by
  refine go_aload_n dX6_find_73 rfl ?_
  refine go_callV (μ := m_X6_isFound) (n := 77) (T := TX6) (N := 6) [] dX6_find_74 ok_X6_isFound ml_X6_31 wx_X6_isFound wl_X6_isFound (show _ = some (0, 5) from rfl) rfl rfl (Nat.le_of_ble_eq_true rfl) ⟨Nat.le_of_ble_eq_true rfl, Nat.le_of_ble_eq_true rfl⟩ ⟨Nat.le_of_ble_eq_true rfl, Nat.le_of_ble_eq_true rfl⟩ rfl ?_
  exact l1
theorem k_X6_find_77 {x2 x3 s0 : Int32} {hi : Nat → Nat → Int32}
    (l1 : s0 = (0 : Int32) → Q none (hi, sk_hr rr, sk_ks ++ ex))
    (l2 : ¬ s0 = (0 : Int32) → (hi 12 5) ≤ x3 → Q none (hi, sk_hr rr, sk_ks ++ ex))
    (o1 : ¬ s0 = (0 : Int32) → ¬ (hi 12 5) ≤ x3 → vp_in x3 24)
    (l3 : ¬ s0 = (0 : Int32) → ¬ (hi 12 5) ≤ x3 → sk_Ct Γ m_X6_placeOf [.int x3, .int (hi 15 (Int32.toNatClampNeg x3))] (hi, sk_hr rr, sk_ks ++ ex) (fun r h' => sk_Go Γ (sk_M Γ m_X6_find Q) (0, 0) 102 [some (.ref 12), some (.ref 2), some (.int x2), some (.int x3), none, none] (r.toList ++ [.ref 13]) h')) :
    sk_Go Γ (sk_M Γ m_X6_find Q) (0, 0) 77 [some (.ref 12), some (.ref 2), some (.int x2), some (.int x3), none, none] [.int s0] (hi, sk_hr rr, sk_ks ++ ex) := by
  refine go_if_eq (tgt := 149) dX6_find_77 (by decide) (fun c1 => ?_) (fun c1 => ?_)
  · exact go_vret (μ := m_X6_find) dX6_find_149 rfl (Nat.le_of_ble_eq_true rfl) (Nat.le_of_ble_eq_true rfl) (l1 c1)
  · refine go_iload_n dX6_find_80 rfl ?_
    refine go_aload_n dX6_find_81 rfl ?_
    refine go_getI dX6_find_82 fl_X6_28 rfl rfl ?_
    refine go_icmp_ge (tgt := 149) dX6_find_85 (by decide) (fun c2 => ?_) (fun c2 => ?_)
    · exact go_vret (μ := m_X6_find) dX6_find_149 rfl (Nat.le_of_ble_eq_true rfl) (Nat.le_of_ble_eq_true rfl) (l2 c1 c2)
    · refine go_aload_n dX6_find_88 rfl ?_
      refine go_getR dX6_find_89 fl_X6_9 rfl rfl (show _ = some 13 from rfl) ?_
      refine go_iload_n dX6_find_92 rfl ?_
      refine go_aload_n dX6_find_93 rfl ?_
      refine go_getR dX6_find_94 fl_X6_18 rfl rfl (show _ = some 15 from rfl) ?_
      refine go_iload_n dX6_find_97 rfl ?_
      refine go_iald dX6_find_98 (show _ = some (1, 24) from rfl) (o1 c1 c2) ?_
      refine go_callS (μ := m_X6_placeOf) (n := 102) [.int x3, .int (hi 15 (Int32.toNatClampNeg x3))] dX6_find_99 ok_X6_placeOf ml_X6_53 wx_X6_placeOf rfl (Nat.le_of_ble_eq_true rfl) ⟨Nat.le_of_ble_eq_true rfl, Nat.le_of_ble_eq_true rfl⟩ ⟨Nat.le_of_ble_eq_true rfl, Nat.le_of_ble_eq_true rfl⟩ rfl ?_
      exact (l3 c1 c2)
theorem k_X6_find_102 {x2 x3 s1 : Int32} {hi : Nat → Nat → Int32}
    (o1 : vp_in s1 768)
    (o2 : vp_in x3 24)
    (l1 : sk_Ct Γ m_X0_worthAt [.ref 2, .int x2, .int x3, .int (hi 15 (Int32.toNatClampNeg x3))] (hi, sk_hr rr, sk_ks ++ ex) (fun r h' => sk_Go Γ (sk_M Γ m_X6_find Q) (0, 0) 117 [some (.ref 12), some (.ref 2), some (.int x2), some (.int x3), none, none] (r.toList ++ [.int ((hi 13 (Int32.toNatClampNeg s1)) + 1)]) h')) :
    sk_Go Γ (sk_M Γ m_X6_find Q) (0, 0) 102 [some (.ref 12), some (.ref 2), some (.int x2), some (.int x3), none, none] [.int s1, .ref 13] (hi, sk_hr rr, sk_ks ++ ex) := by
  refine go_iald dX6_find_102 (show _ = some (1, 768) from rfl) o1 ?_
  refine go_iconst dX6_find_103 (v := 1) (by decide) ?_
  refine go_iadd dX6_find_104 ?_
  refine go_aload_n dX6_find_105 rfl ?_
  refine go_iload_n dX6_find_106 rfl ?_
  refine go_iload_n dX6_find_107 rfl ?_
  refine go_aload_n dX6_find_108 rfl ?_
  refine go_getR dX6_find_109 fl_X6_18 rfl rfl (show _ = some 15 from rfl) ?_
  refine go_iload_n dX6_find_112 rfl ?_
  refine go_iald dX6_find_113 (show _ = some (1, 24) from rfl) o2 ?_
  refine go_callV (μ := m_X0_worthAt) (n := 117) (T := TX0) (N := 5) [.int x2, .int x3, .int (hi 15 (Int32.toNatClampNeg x3))] dX6_find_114 ok_X0_worthAt ml_X6_41 wx_X0_worthAt wl_X0_worthAt (show _ = some (0, 0) from rfl) rfl rfl (Nat.le_of_ble_eq_true rfl) ⟨Nat.le_of_ble_eq_true rfl, Nat.le_of_ble_eq_true rfl⟩ ⟨Nat.le_of_ble_eq_true rfl, Nat.le_of_ble_eq_true rfl⟩ rfl ?_
  exact l1
theorem k_X6_find_117 {x2 x3 s1 s0 : Int32} {hi : Nat → Nat → Int32}
    (o1 : vp_in x3 24)
    (l1 : sk_Ct Γ m_X6_nextHeight [.ref 12, .int (x3 + 1), .int (hi 15 (Int32.toNatClampNeg x3)), .int (s0 - s1)] (hi, sk_hr rr, sk_ks ++ ex) (fun r h' => sk_Go Γ (sk_M Γ m_X6_find Q) (0, 0) 142 [some (.ref 12), some (.ref 2), some (.int x2), some (.int x3), some (.int (s0 - s1)), none] (r.toList ++ [.int (x3 + 1), .ref 15]) h')) :
    sk_Go Γ (sk_M Γ m_X6_find Q) (0, 0) 117 [some (.ref 12), some (.ref 2), some (.int x2), some (.int x3), none, none] [.int s1, .int s0] (hi, sk_hr rr, sk_ks ++ ex) := by
  refine go_isub dX6_find_117 ?_
  refine go_istore dX6_find_118 (Nat.le_of_ble_eq_true rfl) ?_
  show sk_Go Γ (sk_M Γ m_X6_find Q) (0, 0) _ [some (.ref 12), some (.ref 2), some (.int x2), some (.int x3), some (.int (s0 - s1)), none] [] _
  refine go_aload_n dX6_find_120 rfl ?_
  refine go_getR dX6_find_121 fl_X6_18 rfl rfl (show _ = some 15 from rfl) ?_
  refine go_iload_n dX6_find_124 rfl ?_
  refine go_iconst dX6_find_125 (v := 1) (by decide) ?_
  refine go_iadd dX6_find_126 ?_
  refine go_aload_n dX6_find_127 rfl ?_
  refine go_iload_n dX6_find_128 rfl ?_
  refine go_iconst dX6_find_129 (v := 1) (by decide) ?_
  refine go_iadd dX6_find_130 ?_
  refine go_aload_n dX6_find_131 rfl ?_
  refine go_getR dX6_find_132 fl_X6_18 rfl rfl (show _ = some 15 from rfl) ?_
  refine go_iload_n dX6_find_135 rfl ?_
  refine go_iald dX6_find_136 (show _ = some (1, 24) from rfl) o1 ?_
  refine go_iload dX6_find_137 rfl ?_
  refine go_callV (μ := m_X6_nextHeight) (n := 142) (T := TX6) (N := 6) [.int (x3 + 1), .int (hi 15 (Int32.toNatClampNeg x3)), .int (s0 - s1)] dX6_find_139 ok_X6_nextHeight ml_X6_57 wx_X6_nextHeight wl_X6_nextHeight (show _ = some (0, 5) from rfl) rfl rfl (Nat.le_of_ble_eq_true rfl) ⟨Nat.le_of_ble_eq_true rfl, Nat.le_of_ble_eq_true rfl⟩ ⟨Nat.le_of_ble_eq_true rfl, Nat.le_of_ble_eq_true rfl⟩ rfl ?_
  exact l1
theorem k_X6_find_142 {x2 x3 x4 s2 s1 : Int32} {hi : Nat → Nat → Int32}
    (o1 : vp_in s1 24)
    (l1 : sk_Go Γ (sk_M Γ m_X6_find Q) (0, 0) 73 [some (.ref 12), some (.ref 2), some (.int x2), some (.int (x3 + 1)), none, none] [] ((sk_wi hi 15 (Int32.toNatClampNeg s1) s2), sk_hr rr, sk_ks ++ ex)) :
    sk_Go Γ (sk_M Γ m_X6_find Q) (0, 0) 142 [some (.ref 12), some (.ref 2), some (.int x2), some (.int x3), some (.int x4), none] [.int s2, .int s1, .ref 15] (hi, sk_hr rr, sk_ks ++ ex) := by
  refine go_iast dX6_find_142 (show _ = some (1, 24) from rfl) o1 ?_
  refine go_iinc (v := x3 + 1) dX6_find_143 rfl rfl (Nat.le_of_ble_eq_true rfl) ?_
  show sk_Go Γ (sk_M Γ m_X6_find Q) (0, 0) _ [some (.ref 12), some (.ref 2), some (.int x2), some (.int (x3 + 1)), some (.int x4), none] [] _
  refine go_goto (tgt := 73) dX6_find_146 (by decide) ?_
  exact (go_wk l1 (show sk_le _ _ from (And.intro rfl (And.intro rfl (And.intro rfl (And.intro rfl trivial))))))
theorem k_X7_weight_0 {x0 x1 : Int32} {hi : Nat → Nat → Int32}
    (o1 : ¬ (x1 + 1) = 0)
    (l1 : Q (some (.int (100 + ((100 * x0) / (x1 + 1))))) (hi, sk_hr rr, sk_ks ++ ex)) :
    sk_Go Γ (sk_M Γ m_X7_weight Q) (0, 0) 0 [some (.int x0), some (.int x1)] [] (hi, sk_hr rr, sk_ks ++ ex) := by
  refine go_bipush dX7_weight_0 (v := 100) (by decide) ?_
  refine go_bipush dX7_weight_2 (v := 100) (by decide) ?_
  refine go_iload_n dX7_weight_4 rfl ?_
  refine go_imul dX7_weight_5 ?_
  refine go_iload_n dX7_weight_6 rfl ?_
  refine go_iconst dX7_weight_7 (v := 1) (by decide) ?_
  refine go_iadd dX7_weight_8 ?_
  refine go_idiv dX7_weight_9 o1 ?_
  refine go_iadd dX7_weight_10 ?_
  exact go_iret (μ := m_X7_weight) dX7_weight_11 rfl (Nat.le_of_ble_eq_true rfl) (Nat.le_of_ble_eq_true rfl) l1
theorem k_X7_weighed_0 {x1 x2 : Int32} {hi : Nat → Nat → Int32}
    (l1 : sk_Go Γ (sk_M Γ m_X7_weighed Q) (0, 0) 5 [some (.ref 16), some (.int x1), some (.int x2), some (.int 0), some (.int 0)] [] (hi, sk_hr rr, sk_ks ++ ex)) :
    sk_Go Γ (sk_M Γ m_X7_weighed Q) (0, 0) 0 [some (.ref 16), some (.int x1), some (.int x2), none, none] [] (hi, sk_hr rr, sk_ks ++ ex) := by
  refine go_iconst dX7_weighed_0 (v := 0) (by decide) ?_
  refine go_istore_n dX7_weighed_1 (Nat.le_of_ble_eq_true rfl) ?_
  show sk_Go Γ (sk_M Γ m_X7_weighed Q) (0, 0) _ [some (.ref 16), some (.int x1), some (.int x2), some (.int 0), none] [] _
  refine go_iconst dX7_weighed_2 (v := 0) (by decide) ?_
  refine go_istore dX7_weighed_3 (Nat.le_of_ble_eq_true rfl) ?_
  show sk_Go Γ (sk_M Γ m_X7_weighed Q) (0, 0) _ [some (.ref 16), some (.int x1), some (.int x2), some (.int 0), some (.int 0)] [] _
  exact l1
theorem k_X7_weighed_5 {x1 x2 x3 x4 : Int32} {hi : Nat → Nat → Int32}
    (l1 : x1 ≤ x4 → Q (some (.int x3)) (hi, sk_hr rr, sk_ks ++ ex))
    (l2 : ¬ x1 ≤ x4 → sk_Ct Γ m_X7_weight [.int x4, .int x2] (hi, sk_hr rr, sk_ks ++ ex) (fun r h' => sk_Go Γ (sk_M Γ m_X7_weighed Q) (0, 0) 18 [some (.ref 16), some (.int x1), some (.int x2), some (.int x3), some (.int x4)] (r.toList ++ [.int x3]) h')) :
    sk_Go Γ (sk_M Γ m_X7_weighed Q) (0, 0) 5 [some (.ref 16), some (.int x1), some (.int x2), some (.int x3), some (.int x4)] [] (hi, sk_hr rr, sk_ks ++ ex) := by
  refine go_iload dX7_weighed_5 rfl ?_
  refine go_iload_n dX7_weighed_7 rfl ?_
  refine go_icmp_ge (tgt := 34) dX7_weighed_8 (by decide) (fun c1 => ?_) (fun c1 => ?_)
  · refine go_iload_n dX7_weighed_34 rfl ?_
    exact go_iret (μ := m_X7_weighed) dX7_weighed_35 rfl (Nat.le_of_ble_eq_true rfl) (Nat.le_of_ble_eq_true rfl) (l1 c1)
  · refine go_iload_n dX7_weighed_11 rfl ?_
    refine go_iload dX7_weighed_12 rfl ?_
    refine go_iload_n dX7_weighed_14 rfl ?_
    refine go_callS (μ := m_X7_weight) (n := 18) [.int x4, .int x2] dX7_weighed_15 ok_X7_weight ml_X7_40 wx_X7_weight rfl (Nat.le_of_ble_eq_true rfl) ⟨Nat.le_of_ble_eq_true rfl, Nat.le_of_ble_eq_true rfl⟩ ⟨Nat.le_of_ble_eq_true rfl, Nat.le_of_ble_eq_true rfl⟩ rfl ?_
    exact (l2 c1)
theorem k_X7_weighed_18 {x1 x2 x3 x4 s1 s0 : Int32} {hi : Nat → Nat → Int32}
    (o1 : vp_in x4 24)
    (l1 : sk_Go Γ (sk_M Γ m_X7_weighed Q) (0, 0) 5 [some (.ref 16), some (.int x1), some (.int x2), some (.int (s0 + (s1 * (hi 17 (Int32.toNatClampNeg x4))))), some (.int (x4 + 1))] [] (hi, sk_hr rr, sk_ks ++ ex)) :
    sk_Go Γ (sk_M Γ m_X7_weighed Q) (0, 0) 18 [some (.ref 16), some (.int x1), some (.int x2), some (.int x3), some (.int x4)] [.int s1, .int s0] (hi, sk_hr rr, sk_ks ++ ex) := by
  refine go_aload_n dX7_weighed_18 rfl ?_
  refine go_getR dX7_weighed_19 fl_X7_9 rfl rfl (show _ = some 17 from rfl) ?_
  refine go_iload dX7_weighed_22 rfl ?_
  refine go_iald dX7_weighed_24 (show _ = some (1, 24) from rfl) o1 ?_
  refine go_imul dX7_weighed_25 ?_
  refine go_iadd dX7_weighed_26 ?_
  refine go_istore_n dX7_weighed_27 (Nat.le_of_ble_eq_true rfl) ?_
  show sk_Go Γ (sk_M Γ m_X7_weighed Q) (0, 0) _ [some (.ref 16), some (.int x1), some (.int x2), some (.int (s0 + (s1 * (hi 17 (Int32.toNatClampNeg x4))))), some (.int x4)] [] _
  refine go_iinc (v := x4 + 1) dX7_weighed_28 rfl rfl (Nat.le_of_ble_eq_true rfl) ?_
  show sk_Go Γ (sk_M Γ m_X7_weighed Q) (0, 0) _ [some (.ref 16), some (.int x1), some (.int x2), some (.int (s0 + (s1 * (hi 17 (Int32.toNatClampNeg x4))))), some (.int (x4 + 1))] [] _
  refine go_goto (tgt := 5) dX7_weighed_31 (by decide) ?_
  exact l1
theorem k_X7_undo_0 {hi : Nat → Nat → Int32}
    (l1 : sk_Ct Γ m_X6_isFound [.ref 12] ((sk_wi hi 16 1 0), sk_hr rr, sk_ks ++ ex) (fun r h' => sk_Go Γ (sk_M Γ m_X7_undo Q) (0, 0) 9 [some (.ref 16), some (.ref 12), none, none, none, none] (r.toList ++ []) h')) :
    sk_Go Γ (sk_M Γ m_X7_undo Q) (0, 0) 0 [some (.ref 16), some (.ref 12), none, none, none, none] [] (hi, sk_hr rr, sk_ks ++ ex) := by
  refine go_aload_n dX7_undo_0 rfl ?_
  refine go_iconst dX7_undo_1 (v := 0) (by decide) ?_
  refine go_putI dX7_undo_2 fl_X7_15 rfl rfl ?_
  refine go_aload_n dX7_undo_5 rfl ?_
  refine go_callV (μ := m_X6_isFound) (n := 9) (T := TX6) (N := 6) [] dX7_undo_6 ok_X6_isFound ml_X7_19 wx_X6_isFound wl_X6_isFound (show _ = some (0, 5) from rfl) rfl rfl (Nat.le_of_ble_eq_true rfl) ⟨Nat.le_of_ble_eq_true rfl, Nat.le_of_ble_eq_true rfl⟩ ⟨Nat.le_of_ble_eq_true rfl, Nat.le_of_ble_eq_true rfl⟩ rfl ?_
  exact l1
theorem k_X7_undo_9 {s0 : Int32} {hi : Nat → Nat → Int32}
    (l1 : s0 = (0 : Int32) → sk_Go Γ (sk_M Γ m_X7_undo Q) (0, 0) 30 [some (.ref 16), some (.ref 12), some (.int 0), some (.int 0), none, none] [] (hi, sk_hr rr, sk_ks ++ ex))
    (l2 : ¬ s0 = (0 : Int32) → sk_Go Γ (sk_M Γ m_X7_undo Q) (0, 0) 30 [some (.ref 16), some (.ref 12), some (.int (((hi 12 5) - (hi 12 4)) + 1)), some (.int 0), none, none] [] (hi, sk_hr rr, sk_ks ++ ex)) :
    sk_Go Γ (sk_M Γ m_X7_undo Q) (0, 0) 9 [some (.ref 16), some (.ref 12), none, none, none, none] [.int s0] (hi, sk_hr rr, sk_ks ++ ex) := by
  refine go_if_eq (tgt := 26) dX7_undo_9 (by decide) (fun c1 => ?_) (fun c1 => ?_)
  · refine go_iconst dX7_undo_26 (v := 0) (by decide) ?_
    refine go_istore_n dX7_undo_27 (Nat.le_of_ble_eq_true rfl) ?_
    show sk_Go Γ (sk_M Γ m_X7_undo Q) (0, 0) _ [some (.ref 16), some (.ref 12), some (.int 0), none, none, none] [] _
    refine go_iconst dX7_undo_28 (v := 0) (by decide) ?_
    refine go_istore_n dX7_undo_29 (Nat.le_of_ble_eq_true rfl) ?_
    show sk_Go Γ (sk_M Γ m_X7_undo Q) (0, 0) _ [some (.ref 16), some (.ref 12), some (.int 0), some (.int 0), none, none] [] _
    exact (l1 c1)
  · refine go_aload_n dX7_undo_12 rfl ?_
    refine go_getI dX7_undo_13 fl_X7_25 rfl rfl ?_
    refine go_aload_n dX7_undo_16 rfl ?_
    refine go_getI dX7_undo_17 fl_X7_28 rfl rfl ?_
    refine go_isub dX7_undo_20 ?_
    refine go_iconst dX7_undo_21 (v := 1) (by decide) ?_
    refine go_iadd dX7_undo_22 ?_
    refine go_goto (tgt := 27) dX7_undo_23 (by decide) ?_
    refine go_istore_n dX7_undo_27 (Nat.le_of_ble_eq_true rfl) ?_
    show sk_Go Γ (sk_M Γ m_X7_undo Q) (0, 0) _ [some (.ref 16), some (.ref 12), some (.int (((hi 12 5) - (hi 12 4)) + 1)), none, none, none] [] _
    refine go_iconst dX7_undo_28 (v := 0) (by decide) ?_
    refine go_istore_n dX7_undo_29 (Nat.le_of_ble_eq_true rfl) ?_
    show sk_Go Γ (sk_M Γ m_X7_undo Q) (0, 0) _ [some (.ref 16), some (.ref 12), some (.int (((hi 12 5) - (hi 12 4)) + 1)), some (.int 0), none, none] [] _
    exact (l2 c1)
theorem k_X7_undo_30 {x2 x3 : Int32} {hi : Nat → Nat → Int32}
    (l1 : x2 ≤ x3 → Q none (hi, sk_hr rr, sk_ks ++ ex))
    (l2 : ¬ x2 ≤ x3 → sk_Ct Γ m_X6_heightAt [.ref 12, .int ((hi 12 4) + x3)] (hi, sk_hr rr, sk_ks ++ ex) (fun r h' => sk_Go Γ (sk_M Γ m_X7_undo Q) (0, 0) 47 [some (.ref 16), some (.ref 12), some (.int x2), some (.int x3), none, none] (r.toList ++ [.int 100000]) h')) :
    sk_Go Γ (sk_M Γ m_X7_undo Q) (0, 0) 30 [some (.ref 16), some (.ref 12), some (.int x2), some (.int x3), none, none] [] (hi, sk_hr rr, sk_ks ++ ex) := by
  refine go_iload_n dX7_undo_30 rfl ?_
  refine go_iload_n dX7_undo_31 rfl ?_
  refine go_icmp_ge (tgt := 96) dX7_undo_32 (by decide) (fun c1 => ?_) (fun c1 => ?_)
  · exact go_vret (μ := m_X7_undo) dX7_undo_96 rfl (Nat.le_of_ble_eq_true rfl) (Nat.le_of_ble_eq_true rfl) (l1 c1)
  · refine go_ldc dX7_undo_35 kc_X7_31 ?_
    refine go_aload_n dX7_undo_37 rfl ?_
    refine go_aload_n dX7_undo_38 rfl ?_
    refine go_getI dX7_undo_39 fl_X7_28 rfl rfl ?_
    refine go_iload_n dX7_undo_42 rfl ?_
    refine go_iadd dX7_undo_43 ?_
    refine go_callV (μ := m_X6_heightAt) (n := 47) (T := TX6) (N := 6) [.int ((hi 12 4) + x3)] dX7_undo_44 ok_X6_heightAt ml_X7_32 wx_X6_heightAt wl_X6_heightAt (show _ = some (0, 5) from rfl) rfl rfl (Nat.le_of_ble_eq_true rfl) ⟨Nat.le_of_ble_eq_true rfl, Nat.le_of_ble_eq_true rfl⟩ ⟨Nat.le_of_ble_eq_true rfl, Nat.le_of_ble_eq_true rfl⟩ rfl ?_
    exact (l2 c1)
theorem k_X7_undo_47 {x2 x3 s1 s0 : Int32} {hi : Nat → Nat → Int32}
    (l1 : sk_Ct Γ m_X7_weighed [.ref 16, .int x3, .int x3] (hi, sk_hr rr, sk_ks ++ ex) (fun r h' => sk_Go Γ (sk_M Γ m_X7_undo Q) (0, 0) 56 [some (.ref 16), some (.ref 12), some (.int x2), some (.int x3), none, none] (r.toList ++ [.int (s0 * (s1 + 1))]) h')) :
    sk_Go Γ (sk_M Γ m_X7_undo Q) (0, 0) 47 [some (.ref 16), some (.ref 12), some (.int x2), some (.int x3), none, none] [.int s1, .int s0] (hi, sk_hr rr, sk_ks ++ ex) := by
  refine go_iconst dX7_undo_47 (v := 1) (by decide) ?_
  refine go_iadd dX7_undo_48 ?_
  refine go_imul dX7_undo_49 ?_
  refine go_aload_n dX7_undo_50 rfl ?_
  refine go_iload_n dX7_undo_51 rfl ?_
  refine go_iload_n dX7_undo_52 rfl ?_
  refine go_callV (μ := m_X7_weighed) (n := 56) (T := TX7) (N := 2) [.int x3, .int x3] dX7_undo_53 ok_X7_weighed ml_X7_36 wx_X7_weighed wl_X7_weighed (show _ = some (0, 6) from rfl) rfl rfl (Nat.le_of_ble_eq_true rfl) ⟨Nat.le_of_ble_eq_true rfl, Nat.le_of_ble_eq_true rfl⟩ ⟨Nat.le_of_ble_eq_true rfl, Nat.le_of_ble_eq_true rfl⟩ rfl ?_
  exact l1
theorem k_X7_undo_56 {x2 x3 s1 s0 : Int32} {hi : Nat → Nat → Int32}
    (l1 : sk_Ct Γ m_X7_weight [.int x3, .int x3] (hi, sk_hr rr, sk_ks ++ ex) (fun r h' => sk_Go Γ (sk_M Γ m_X7_undo Q) (0, 0) 66 [some (.ref 16), some (.ref 12), some (.int x2), some (.int x3), some (.int (s0 - s1)), none] (r.toList ++ [.int (s0 - s1)]) h')) :
    sk_Go Γ (sk_M Γ m_X7_undo Q) (0, 0) 56 [some (.ref 16), some (.ref 12), some (.int x2), some (.int x3), none, none] [.int s1, .int s0] (hi, sk_hr rr, sk_ks ++ ex) := by
  refine go_isub dX7_undo_56 ?_
  refine go_istore dX7_undo_57 (Nat.le_of_ble_eq_true rfl) ?_
  show sk_Go Γ (sk_M Γ m_X7_undo Q) (0, 0) _ [some (.ref 16), some (.ref 12), some (.int x2), some (.int x3), some (.int (s0 - s1)), none] [] _
  refine go_iload dX7_undo_59 rfl ?_
  refine go_iload_n dX7_undo_61 rfl ?_
  refine go_iload_n dX7_undo_62 rfl ?_
  refine go_callS (μ := m_X7_weight) (n := 66) [.int x3, .int x3] dX7_undo_63 ok_X7_weight ml_X7_40 wx_X7_weight rfl (Nat.le_of_ble_eq_true rfl) ⟨Nat.le_of_ble_eq_true rfl, Nat.le_of_ble_eq_true rfl⟩ ⟨Nat.le_of_ble_eq_true rfl, Nat.le_of_ble_eq_true rfl⟩ rfl ?_
  exact l1
theorem k_X7_undo_66 {x2 x3 x4 s1 s0 : Int32} {hi : Nat → Nat → Int32}
    (o1 : ¬ s1 = 0)
    (o2 : (0 : Int32) < (s0 / s1) → vp_in x3 24)
    (l1 : (0 : Int32) < (s0 / s1) → sk_Go Γ (sk_M Γ m_X7_undo Q) (0, 0) 30 [some (.ref 16), some (.ref 12), some (.int x2), some (.int (x3 + 1)), none, none] [] ((sk_wi (sk_wi hi 17 (Int32.toNatClampNeg x3) (s0 / s1)) 16 1 (x3 + 1)), sk_hr rr, sk_ks ++ ex))
    (l2 : ¬ (0 : Int32) < (s0 / s1) → Q none (hi, sk_hr rr, sk_ks ++ ex)) :
    sk_Go Γ (sk_M Γ m_X7_undo Q) (0, 0) 66 [some (.ref 16), some (.ref 12), some (.int x2), some (.int x3), some (.int x4), none] [.int s1, .int s0] (hi, sk_hr rr, sk_ks ++ ex) := by
  refine go_idiv dX7_undo_66 o1 ?_
  refine go_istore dX7_undo_67 (Nat.le_of_ble_eq_true rfl) ?_
  show sk_Go Γ (sk_M Γ m_X7_undo Q) (0, 0) _ [some (.ref 16), some (.ref 12), some (.int x2), some (.int x3), some (.int x4), some (.int (s0 / s1))] [] _
  refine go_iload dX7_undo_69 rfl ?_
  refine go_if_gt (tgt := 75) dX7_undo_71 (by decide) (fun c1 => ?_) (fun c1 => ?_)
  · refine go_aload_n dX7_undo_75 rfl ?_
    refine go_getR dX7_undo_76 fl_X7_9 rfl rfl (show _ = some 17 from rfl) ?_
    refine go_iload_n dX7_undo_79 rfl ?_
    refine go_iload dX7_undo_80 rfl ?_
    refine go_iast dX7_undo_82 (show _ = some (1, 24) from rfl) (o2 c1) ?_
    refine go_aload_n dX7_undo_83 rfl ?_
    refine go_iload_n dX7_undo_84 rfl ?_
    refine go_iconst dX7_undo_85 (v := 1) (by decide) ?_
    refine go_iadd dX7_undo_86 ?_
    refine go_putI dX7_undo_87 fl_X7_15 rfl rfl ?_
    refine go_iinc (v := x3 + 1) dX7_undo_90 rfl rfl (Nat.le_of_ble_eq_true rfl) ?_
    show sk_Go Γ (sk_M Γ m_X7_undo Q) (0, 0) _ [some (.ref 16), some (.ref 12), some (.int x2), some (.int (x3 + 1)), some (.int x4), some (.int (s0 / s1))] [] _
    refine go_goto (tgt := 30) dX7_undo_93 (by decide) ?_
    exact (go_wk (l1 c1) (show sk_le _ _ from (And.intro rfl (And.intro rfl (And.intro rfl (And.intro rfl trivial))))))
  · exact go_vret (μ := m_X7_undo) dX7_undo_74 rfl (Nat.le_of_ble_eq_true rfl) (Nat.le_of_ble_eq_true rfl) (l2 c1)
theorem k_X7_stepAt_0 {x1 : Int32} {hi : Nat → Nat → Int32}
    (o1 : vp_in x1 24)
    (l1 : Q (some (.int (hi 17 (Int32.toNatClampNeg x1)))) (hi, sk_hr rr, sk_ks ++ ex)) :
    sk_Go Γ (sk_M Γ m_X7_stepAt Q) (0, 0) 0 [some (.ref 16), some (.int x1)] [] (hi, sk_hr rr, sk_ks ++ ex) := by
  refine go_aload_n dX7_stepAt_0 rfl ?_
  refine go_getR dX7_stepAt_1 fl_X7_9 rfl rfl (show _ = some 17 from rfl) ?_
  refine go_iload_n dX7_stepAt_4 rfl ?_
  refine go_iald dX7_stepAt_5 (show _ = some (1, 24) from rfl) o1 ?_
  exact go_iret (μ := m_X7_stepAt) dX7_stepAt_6 rfl (Nat.le_of_ble_eq_true rfl) (Nat.le_of_ble_eq_true rfl) l1
theorem k_X7_trueHeightAt_0 {x1 : Int32} {hi : Nat → Nat → Int32}
    (l1 : sk_Go Γ (sk_M Γ m_X7_trueHeightAt Q) (0, 0) 4 [some (.ref 16), some (.int x1), some (.int 0), some (.int 0)] [] (hi, sk_hr rr, sk_ks ++ ex)) :
    sk_Go Γ (sk_M Γ m_X7_trueHeightAt Q) (0, 0) 0 [some (.ref 16), some (.int x1), none, none] [] (hi, sk_hr rr, sk_ks ++ ex) := by
  refine go_iconst dX7_trueHeightAt_0 (v := 0) (by decide) ?_
  refine go_istore_n dX7_trueHeightAt_1 (Nat.le_of_ble_eq_true rfl) ?_
  show sk_Go Γ (sk_M Γ m_X7_trueHeightAt Q) (0, 0) _ [some (.ref 16), some (.int x1), some (.int 0), none] [] _
  refine go_iconst dX7_trueHeightAt_2 (v := 0) (by decide) ?_
  refine go_istore_n dX7_trueHeightAt_3 (Nat.le_of_ble_eq_true rfl) ?_
  show sk_Go Γ (sk_M Γ m_X7_trueHeightAt Q) (0, 0) _ [some (.ref 16), some (.int x1), some (.int 0), some (.int 0)] [] _
  exact l1
theorem k_X7_trueHeightAt_4 {x1 x2 x3 : Int32} {hi : Nat → Nat → Int32}
    (l1 : x1 < x3 → Q (some (.int x2)) (hi, sk_hr rr, sk_ks ++ ex))
    (o1 : ¬ x1 < x3 → vp_in x3 24)
    (l2 : ¬ x1 < x3 → sk_Go Γ (sk_M Γ m_X7_trueHeightAt Q) (0, 0) 4 [some (.ref 16), some (.int x1), some (.int (x2 + (hi 17 (Int32.toNatClampNeg x3)))), some (.int (x3 + 1))] [] (hi, sk_hr rr, sk_ks ++ ex)) :
    sk_Go Γ (sk_M Γ m_X7_trueHeightAt Q) (0, 0) 4 [some (.ref 16), some (.int x1), some (.int x2), some (.int x3)] [] (hi, sk_hr rr, sk_ks ++ ex) := by
  refine go_iload_n dX7_trueHeightAt_4 rfl ?_
  refine go_iload_n dX7_trueHeightAt_5 rfl ?_
  refine go_icmp_gt (tgt := 24) dX7_trueHeightAt_6 (by decide) (fun c1 => ?_) (fun c1 => ?_)
  · refine go_iload_n dX7_trueHeightAt_24 rfl ?_
    exact go_iret (μ := m_X7_trueHeightAt) dX7_trueHeightAt_25 rfl (Nat.le_of_ble_eq_true rfl) (Nat.le_of_ble_eq_true rfl) (l1 c1)
  · refine go_iload_n dX7_trueHeightAt_9 rfl ?_
    refine go_aload_n dX7_trueHeightAt_10 rfl ?_
    refine go_getR dX7_trueHeightAt_11 fl_X7_9 rfl rfl (show _ = some 17 from rfl) ?_
    refine go_iload_n dX7_trueHeightAt_14 rfl ?_
    refine go_iald dX7_trueHeightAt_15 (show _ = some (1, 24) from rfl) (o1 c1) ?_
    refine go_iadd dX7_trueHeightAt_16 ?_
    refine go_istore_n dX7_trueHeightAt_17 (Nat.le_of_ble_eq_true rfl) ?_
    show sk_Go Γ (sk_M Γ m_X7_trueHeightAt Q) (0, 0) _ [some (.ref 16), some (.int x1), some (.int (x2 + (hi 17 (Int32.toNatClampNeg x3)))), some (.int x3)] [] _
    refine go_iinc (v := x3 + 1) dX7_trueHeightAt_18 rfl rfl (Nat.le_of_ble_eq_true rfl) ?_
    show sk_Go Γ (sk_M Γ m_X7_trueHeightAt Q) (0, 0) _ [some (.ref 16), some (.int x1), some (.int (x2 + (hi 17 (Int32.toNatClampNeg x3)))), some (.int (x3 + 1))] [] _
    refine go_goto (tgt := 4) dX7_trueHeightAt_21 (by decide) ?_
    exact (l2 c1)
theorem k_X7_madeAgain_0 {x1 : Int32} {hi : Nat → Nat → Int32}
    (l1 : sk_Ct Γ m_X7_weighed [.ref 16, .int (x1 + 1), .int x1] (hi, sk_hr rr, sk_ks ++ ex) (fun r h' => sk_Go Γ (sk_M Γ m_X7_madeAgain Q) (0, 0) 8 [some (.ref 16), some (.int x1)] (r.toList ++ []) h')) :
    sk_Go Γ (sk_M Γ m_X7_madeAgain Q) (0, 0) 0 [some (.ref 16), some (.int x1)] [] (hi, sk_hr rr, sk_ks ++ ex) := by
  refine go_aload_n dX7_madeAgain_0 rfl ?_
  refine go_iload_n dX7_madeAgain_1 rfl ?_
  refine go_iconst dX7_madeAgain_2 (v := 1) (by decide) ?_
  refine go_iadd dX7_madeAgain_3 ?_
  refine go_iload_n dX7_madeAgain_4 rfl ?_
  refine go_callV (μ := m_X7_weighed) (n := 8) (T := TX7) (N := 2) [.int (x1 + 1), .int x1] dX7_madeAgain_5 ok_X7_weighed ml_X7_36 wx_X7_weighed wl_X7_weighed (show _ = some (0, 6) from rfl) rfl rfl (Nat.le_of_ble_eq_true rfl) ⟨Nat.le_of_ble_eq_true rfl, Nat.le_of_ble_eq_true rfl⟩ ⟨Nat.le_of_ble_eq_true rfl, Nat.le_of_ble_eq_true rfl⟩ rfl ?_
  exact l1
theorem k_X7_madeAgain_8 {x1 s0 : Int32} {hi : Nat → Nat → Int32}
    (l1 : Q (some (.int ((s0 / 100000) - 1))) (hi, sk_hr rr, sk_ks ++ ex)) :
    sk_Go Γ (sk_M Γ m_X7_madeAgain Q) (0, 0) 8 [some (.ref 16), some (.int x1)] [.int s0] (hi, sk_hr rr, sk_ks ++ ex) := by
  refine go_ldc dX7_madeAgain_8 kc_X7_31 ?_
  refine go_idiv dX7_madeAgain_10 (by decide) ?_
  refine go_iconst dX7_madeAgain_11 (v := 1) (by decide) ?_
  refine go_isub dX7_madeAgain_12 ?_
  exact go_iret (μ := m_X7_madeAgain) dX7_madeAgain_13 rfl (Nat.le_of_ble_eq_true rfl) (Nat.le_of_ble_eq_true rfl) l1
end BLK
