section BLK
variable {Γ : sk_Cx} {Q : Option Value → sk_Hp → Prop} {rr : Nat → Nat → Option Nat} {ex : List (Nat × Nat)}
theorem k_X1_rootOf_0 {x0 : Int64} {hi : Nat → Nat → Int32}
    (l1 : sk_Go Γ (sk_M Γ m_X1_rootOf Q) (0, 0) 6 [some (.long x0), none, some (.long (0 : Int64)), none, some (.int 23), none, none] [] (hi, sk_hr rr, sk_ks ++ ex)) :
    sk_Go Γ (sk_M Γ m_X1_rootOf Q) (0, 0) 0 [some (.long x0), none, none, none, none, none, none] [] (hi, sk_hr rr, sk_ks ++ ex) := by
  refine go_lconst dX1_rootOf_0 (v := 0) (by decide) ?_
  refine go_lstore_n dX1_rootOf_1 (Nat.le_of_ble_eq_true rfl) ?_
  show sk_Go Γ (sk_M Γ m_X1_rootOf Q) (0, 0) _ [some (.long x0), none, some (.long (0 : Int64)), none, none, none, none] [] _
  refine go_bipush dX1_rootOf_2 (v := 23) (by decide) ?_
  refine go_istore dX1_rootOf_4 (Nat.le_of_ble_eq_true rfl) ?_
  show sk_Go Γ (sk_M Γ m_X1_rootOf Q) (0, 0) _ [some (.long x0), none, some (.long (0 : Int64)), none, some (.int 23), none, none] [] _
  exact l1
theorem k_X1_rootOf_6 {x4 : Int32} {x0 x2 : Int64} {hi : Nat → Nat → Int32}
    (l1 : x4 < (0 : Int32) → Q (some (.int (Int64.toInt32 x2))) (hi, sk_hr rr, sk_ks ++ ex))
    (l2 : ¬ x4 < (0 : Int32) → (0 : Int32) < (lg_cmp ((x2 + ((1 : Int64) <<< (Int32.toInt64 x4 &&& 63))) * (x2 + ((1 : Int64) <<< (Int32.toInt64 x4 &&& 63)))) x0) → sk_Go Γ (sk_M Γ m_X1_rootOf Q) (0, 0) 6 [some (.long x0), none, some (.long x2), none, some (.int (x4 + (-1))), none, none] [] (hi, sk_hr rr, sk_ks ++ ex))
    (l3 : ¬ x4 < (0 : Int32) → ¬ (0 : Int32) < (lg_cmp ((x2 + ((1 : Int64) <<< (Int32.toInt64 x4 &&& 63))) * (x2 + ((1 : Int64) <<< (Int32.toInt64 x4 &&& 63)))) x0) → sk_Go Γ (sk_M Γ m_X1_rootOf Q) (0, 0) 6 [some (.long x0), none, some (.long (x2 + ((1 : Int64) <<< (Int32.toInt64 x4 &&& 63)))), none, some (.int (x4 + (-1))), none, none] [] (hi, sk_hr rr, sk_ks ++ ex)) :
    sk_Go Γ (sk_M Γ m_X1_rootOf Q) (0, 0) 6 [some (.long x0), none, some (.long x2), none, some (.int x4), none, none] [] (hi, sk_hr rr, sk_ks ++ ex) := by
  refine go_iload dX1_rootOf_6 rfl ?_
  refine go_if_lt (tgt := 38) dX1_rootOf_8 (by decide) (fun c1 => ?_) (fun c1 => ?_)
  · refine go_lload_n dX1_rootOf_38 rfl ?_
    refine go_l2i dX1_rootOf_39 ?_
    exact go_iret (μ := m_X1_rootOf) dX1_rootOf_40 rfl (Nat.le_of_ble_eq_true rfl) (Nat.le_of_ble_eq_true rfl) (l1 c1)
  · refine go_lload_n dX1_rootOf_11 rfl ?_
    refine go_lconst dX1_rootOf_12 (v := 1) (by decide) ?_
    refine go_iload dX1_rootOf_13 rfl ?_
    refine go_lshl dX1_rootOf_15 ?_
    refine go_ladd dX1_rootOf_16 ?_
    refine go_lstore dX1_rootOf_17 (Nat.le_of_ble_eq_true rfl) ?_
    show sk_Go Γ (sk_M Γ m_X1_rootOf Q) (0, 0) _ [some (.long x0), none, some (.long x2), none, some (.int x4), some (.long (x2 + ((1 : Int64) <<< (Int32.toInt64 x4 &&& 63)))), none] [] _
    refine go_lload dX1_rootOf_19 rfl ?_
    refine go_lload dX1_rootOf_21 rfl ?_
    refine go_lmul dX1_rootOf_23 ?_
    refine go_lload_n dX1_rootOf_24 rfl ?_
    refine go_lcmp dX1_rootOf_25 ?_
    refine go_if_gt (tgt := 32) dX1_rootOf_26 (by decide) (fun c2 => ?_) (fun c2 => ?_)
    · refine go_iinc (v := x4 + (-1)) dX1_rootOf_32 rfl (by rw [show Int32.ofInt (-1) = -1 by decide]) (Nat.le_of_ble_eq_true rfl) ?_
      show sk_Go Γ (sk_M Γ m_X1_rootOf Q) (0, 0) _ [some (.long x0), none, some (.long x2), none, some (.int (x4 + (-1))), some (.long (x2 + ((1 : Int64) <<< (Int32.toInt64 x4 &&& 63)))), none] [] _
      refine go_goto (tgt := 6) dX1_rootOf_35 (by decide) ?_
      exact (go_wk (l2 c1 c2) (show sk_le _ _ from (And.intro rfl (And.intro rfl (And.intro rfl trivial)))))
    · refine go_lload dX1_rootOf_29 rfl ?_
      refine go_lstore_n dX1_rootOf_31 (Nat.le_of_ble_eq_true rfl) ?_
      show sk_Go Γ (sk_M Γ m_X1_rootOf Q) (0, 0) _ [some (.long x0), none, some (.long (x2 + ((1 : Int64) <<< (Int32.toInt64 x4 &&& 63)))), none, some (.int x4), some (.long (x2 + ((1 : Int64) <<< (Int32.toInt64 x4 &&& 63)))), none] [] _
      refine go_iinc (v := x4 + (-1)) dX1_rootOf_32 rfl (by rw [show Int32.ofInt (-1) = -1 by decide]) (Nat.le_of_ble_eq_true rfl) ?_
      show sk_Go Γ (sk_M Γ m_X1_rootOf Q) (0, 0) _ [some (.long x0), none, some (.long (x2 + ((1 : Int64) <<< (Int32.toInt64 x4 &&& 63)))), none, some (.int (x4 + (-1))), some (.long (x2 + ((1 : Int64) <<< (Int32.toInt64 x4 &&& 63)))), none] [] _
      refine go_goto (tgt := 6) dX1_rootOf_35 (by decide) ?_
      exact (go_wk (l3 c1 c2) (show sk_le _ _ from (And.intro rfl (And.intro rfl (And.intro rfl trivial)))))
theorem k_X1_highestTone_0 {x0 x1 x2 x3 : Int32} {hi : Nat → Nat → Int32}
    (o1 : ¬ (((((4 : Int64) * (Int32.toInt64 x3)) * (Int32.toInt64 x3)) * (Int32.toInt64 x1)) * (Int32.toInt64 x1)) = 0)
    (l1 : sk_Ct Γ m_X1_rootOf [.long ((((Int32.toInt64 x2) * (Int32.toInt64 x2)) * (((Int32.toInt64 x0) * (Int32.toInt64 x0)) + (((((4 : Int64) * (Int32.toInt64 x3)) * (Int32.toInt64 x3)) * (Int32.toInt64 x1)) * (Int32.toInt64 x1)))) / (((((4 : Int64) * (Int32.toInt64 x3)) * (Int32.toInt64 x3)) * (Int32.toInt64 x1)) * (Int32.toInt64 x1)))] (hi, sk_hr rr, sk_ks ++ ex) (fun r h' => sk_Go Γ (sk_M Γ m_X1_highestTone Q) (0, 0) 41 [some (.int x0), some (.int x1), some (.int x2), some (.int x3), some (.long (((((4 : Int64) * (Int32.toInt64 x3)) * (Int32.toInt64 x3)) * (Int32.toInt64 x1)) * (Int32.toInt64 x1))), none, some (.long (((Int32.toInt64 x0) * (Int32.toInt64 x0)) + (((((4 : Int64) * (Int32.toInt64 x3)) * (Int32.toInt64 x3)) * (Int32.toInt64 x1)) * (Int32.toInt64 x1)))), none] (r.toList ++ []) h')) :
    sk_Go Γ (sk_M Γ m_X1_highestTone Q) (0, 0) 0 [some (.int x0), some (.int x1), some (.int x2), some (.int x3), none, none, none, none] [] (hi, sk_hr rr, sk_ks ++ ex) := by
  refine go_ldc2 dX1_highestTone_0 kc_X1_9 ?_
  refine go_iload_n dX1_highestTone_3 rfl ?_
  refine go_i2l dX1_highestTone_4 ?_
  refine go_lmul dX1_highestTone_5 ?_
  refine go_iload_n dX1_highestTone_6 rfl ?_
  refine go_i2l dX1_highestTone_7 ?_
  refine go_lmul dX1_highestTone_8 ?_
  refine go_iload_n dX1_highestTone_9 rfl ?_
  refine go_i2l dX1_highestTone_10 ?_
  refine go_lmul dX1_highestTone_11 ?_
  refine go_iload_n dX1_highestTone_12 rfl ?_
  refine go_i2l dX1_highestTone_13 ?_
  refine go_lmul dX1_highestTone_14 ?_
  refine go_lstore dX1_highestTone_15 (Nat.le_of_ble_eq_true rfl) ?_
  show sk_Go Γ (sk_M Γ m_X1_highestTone Q) (0, 0) _ [some (.int x0), some (.int x1), some (.int x2), some (.int x3), some (.long (((((4 : Int64) * (Int32.toInt64 x3)) * (Int32.toInt64 x3)) * (Int32.toInt64 x1)) * (Int32.toInt64 x1))), none, none, none] [] _
  refine go_iload_n dX1_highestTone_17 rfl ?_
  refine go_i2l dX1_highestTone_18 ?_
  refine go_iload_n dX1_highestTone_19 rfl ?_
  refine go_i2l dX1_highestTone_20 ?_
  refine go_lmul dX1_highestTone_21 ?_
  refine go_lload dX1_highestTone_22 rfl ?_
  refine go_ladd dX1_highestTone_24 ?_
  refine go_lstore dX1_highestTone_25 (Nat.le_of_ble_eq_true rfl) ?_
  show sk_Go Γ (sk_M Γ m_X1_highestTone Q) (0, 0) _ [some (.int x0), some (.int x1), some (.int x2), some (.int x3), some (.long (((((4 : Int64) * (Int32.toInt64 x3)) * (Int32.toInt64 x3)) * (Int32.toInt64 x1)) * (Int32.toInt64 x1))), none, some (.long (((Int32.toInt64 x0) * (Int32.toInt64 x0)) + (((((4 : Int64) * (Int32.toInt64 x3)) * (Int32.toInt64 x3)) * (Int32.toInt64 x1)) * (Int32.toInt64 x1)))), none] [] _
  refine go_iload_n dX1_highestTone_27 rfl ?_
  refine go_i2l dX1_highestTone_28 ?_
  refine go_iload_n dX1_highestTone_29 rfl ?_
  refine go_i2l dX1_highestTone_30 ?_
  refine go_lmul dX1_highestTone_31 ?_
  refine go_lload dX1_highestTone_32 rfl ?_
  refine go_lmul dX1_highestTone_34 ?_
  refine go_lload dX1_highestTone_35 rfl ?_
  refine go_ldiv dX1_highestTone_37 o1 ?_
  refine go_callS (μ := m_X1_rootOf) (n := 41) [.long ((((Int32.toInt64 x2) * (Int32.toInt64 x2)) * (((Int32.toInt64 x0) * (Int32.toInt64 x0)) + (((((4 : Int64) * (Int32.toInt64 x3)) * (Int32.toInt64 x3)) * (Int32.toInt64 x1)) * (Int32.toInt64 x1)))) / (((((4 : Int64) * (Int32.toInt64 x3)) * (Int32.toInt64 x3)) * (Int32.toInt64 x1)) * (Int32.toInt64 x1)))] dX1_highestTone_38 ok_X1_rootOf ml_X1_11 wx_X1_rootOf rfl (Nat.le_of_ble_eq_true rfl) ⟨Nat.le_of_ble_eq_true rfl, Nat.le_of_ble_eq_true rfl⟩ ⟨Nat.le_of_ble_eq_true rfl, Nat.le_of_ble_eq_true rfl⟩ rfl ?_
  exact l1
theorem k_X1_highestTone_41 {x0 x1 x2 x3 s0 : Int32} {x4 x6 : Int64} {hi : Nat → Nat → Int32}
    (l1 : Q (some (.int s0)) (hi, sk_hr rr, sk_ks ++ ex)) :
    sk_Go Γ (sk_M Γ m_X1_highestTone Q) (0, 0) 41 [some (.int x0), some (.int x1), some (.int x2), some (.int x3), some (.long x4), none, some (.long x6), none] [.int s0] (hi, sk_hr rr, sk_ks ++ ex) := by
  exact go_iret (μ := m_X1_highestTone) dX1_highestTone_41 rfl (Nat.le_of_ble_eq_true rfl) (Nat.le_of_ble_eq_true rfl) l1
theorem k_X1_leastHops_0 {x0 x1 : Int32} {hi : Nat → Nat → Int32}
    (l1 : sk_Go Γ (sk_M Γ m_X1_leastHops Q) (0, 0) 2 [some (.int x0), some (.int x1), some (.int 1)] [] (hi, sk_hr rr, sk_ks ++ ex)) :
    sk_Go Γ (sk_M Γ m_X1_leastHops Q) (0, 0) 0 [some (.int x0), some (.int x1), none] [] (hi, sk_hr rr, sk_ks ++ ex) := by
  refine go_iconst dX1_leastHops_0 (v := 1) (by decide) ?_
  refine go_istore_n dX1_leastHops_1 (Nat.le_of_ble_eq_true rfl) ?_
  show sk_Go Γ (sk_M Γ m_X1_leastHops Q) (0, 0) _ [some (.int x0), some (.int x1), some (.int 1)] [] _
  exact l1
theorem k_X1_leastHops_2 {x0 x1 x2 : Int32} {hi : Nat → Nat → Int32}
    (l1 : (5 : Int32) < x2 → Q (some (.int (-1))) (hi, sk_hr rr, sk_ks ++ ex))
    (l2 : ¬ (5 : Int32) < x2 → (x2 * x1) < x0 → sk_Go Γ (sk_M Γ m_X1_leastHops Q) (0, 0) 2 [some (.int x0), some (.int x1), some (.int (x2 + 1))] [] (hi, sk_hr rr, sk_ks ++ ex))
    (l3 : ¬ (5 : Int32) < x2 → ¬ (x2 * x1) < x0 → Q (some (.int x2)) (hi, sk_hr rr, sk_ks ++ ex)) :
    sk_Go Γ (sk_M Γ m_X1_leastHops Q) (0, 0) 2 [some (.int x0), some (.int x1), some (.int x2)] [] (hi, sk_hr rr, sk_ks ++ ex) := by
  refine go_iload_n dX1_leastHops_2 rfl ?_
  refine go_iconst dX1_leastHops_3 (v := 5) (by decide) ?_
  refine go_icmp_gt (tgt := 22) dX1_leastHops_4 (by decide) (fun c1 => ?_) (fun c1 => ?_)
  · refine go_iconst dX1_leastHops_22 (v := (-1)) (by decide) ?_
    exact go_iret (μ := m_X1_leastHops) dX1_leastHops_23 rfl (Nat.le_of_ble_eq_true rfl) (Nat.le_of_ble_eq_true rfl) (l1 c1)
  · refine go_iload_n dX1_leastHops_7 rfl ?_
    refine go_iload_n dX1_leastHops_8 rfl ?_
    refine go_iload_n dX1_leastHops_9 rfl ?_
    refine go_imul dX1_leastHops_10 ?_
    refine go_icmp_gt (tgt := 16) dX1_leastHops_11 (by decide) (fun c2 => ?_) (fun c2 => ?_)
    · refine go_iinc (v := x2 + 1) dX1_leastHops_16 rfl rfl (Nat.le_of_ble_eq_true rfl) ?_
      show sk_Go Γ (sk_M Γ m_X1_leastHops Q) (0, 0) _ [some (.int x0), some (.int x1), some (.int (x2 + 1))] [] _
      refine go_goto (tgt := 2) dX1_leastHops_19 (by decide) ?_
      exact (l2 c1 c2)
    · refine go_iload_n dX1_leastHops_14 rfl ?_
      exact go_iret (μ := m_X1_leastHops) dX1_leastHops_15 rfl (Nat.le_of_ble_eq_true rfl) (Nat.le_of_ble_eq_true rfl) (l3 c1 c2)
theorem k_X5_cellOf_0 {x0 x1 : Int32} {hi : Nat → Nat → Int32}
    (l1 : Q (some (.int ((x0 * 31) + x1))) (hi, sk_hr rr, sk_ks ++ ex)) :
    sk_Go Γ (sk_M Γ m_X5_cellOf Q) (0, 0) 0 [some (.int x0), some (.int x1)] [] (hi, sk_hr rr, sk_ks ++ ex) := by
  refine go_iload_n dX5_cellOf_0 rfl ?_
  refine go_bipush dX5_cellOf_1 (v := 31) (by decide) ?_
  refine go_imul dX5_cellOf_3 ?_
  refine go_iload_n dX5_cellOf_4 rfl ?_
  refine go_iadd dX5_cellOf_5 ?_
  exact go_iret (μ := m_X5_cellOf) dX5_cellOf_6 rfl (Nat.le_of_ble_eq_true rfl) (Nat.le_of_ble_eq_true rfl) l1
theorem k_X5_isMissing_0 {x1 x2 : Int32} {hi : Nat → Nat → Int32}
    (l1 : sk_Ct Γ m_X5_cellOf [.int x1, .int x2] (hi, sk_hr rr, sk_ks ++ ex) (fun r h' => sk_Go Γ (sk_M Γ m_X5_isMissing Q) (0, 0) 9 [some (.ref 5), some (.int x1), some (.int x2)] (r.toList ++ [.ref 6]) h')) :
    sk_Go Γ (sk_M Γ m_X5_isMissing Q) (0, 0) 0 [some (.ref 5), some (.int x1), some (.int x2)] [] (hi, sk_hr rr, sk_ks ++ ex) := by
  refine go_aload_n dX5_isMissing_0 rfl ?_
  refine go_getR dX5_isMissing_1 fl_X5_9 rfl rfl (show _ = some 6 from rfl) ?_
  refine go_iload_n dX5_isMissing_4 rfl ?_
  refine go_iload_n dX5_isMissing_5 rfl ?_
  refine go_callS (μ := m_X5_cellOf) (n := 9) [.int x1, .int x2] dX5_isMissing_6 ok_X5_cellOf ml_X5_15 wx_X5_cellOf rfl (Nat.le_of_ble_eq_true rfl) ⟨Nat.le_of_ble_eq_true rfl, Nat.le_of_ble_eq_true rfl⟩ ⟨Nat.le_of_ble_eq_true rfl, Nat.le_of_ble_eq_true rfl⟩ rfl ?_
  exact l1
theorem k_X5_isMissing_9 {x1 x2 s1 : Int32} {hi : Nat → Nat → Int32}
    (o1 : vp_in s1 744)
    (l1 : ¬ (hi 6 (Int32.toNatClampNeg s1)) = (-1 : Int32) → Q (some (.int 0)) (hi, sk_hr rr, sk_ks ++ ex))
    (l2 : (hi 6 (Int32.toNatClampNeg s1)) = (-1 : Int32) → Q (some (.int 1)) (hi, sk_hr rr, sk_ks ++ ex)) :
    sk_Go Γ (sk_M Γ m_X5_isMissing Q) (0, 0) 9 [some (.ref 5), some (.int x1), some (.int x2)] [.int s1, .ref 6] (hi, sk_hr rr, sk_ks ++ ex) := by
  refine go_iald dX5_isMissing_9 (show _ = some (1, 744) from rfl) o1 ?_
  refine go_iconst dX5_isMissing_10 (v := (-1)) (by decide) ?_
  refine go_icmp_ne (tgt := 18) dX5_isMissing_11 (by decide) (fun c1 => ?_) (fun c1 => ?_)
  · refine go_iconst dX5_isMissing_18 (v := 0) (by decide) ?_
    exact go_zret (μ := m_X5_isMissing) dX5_isMissing_19 rfl rfl (Nat.le_of_ble_eq_true rfl) (Nat.le_of_ble_eq_true rfl) (l1 c1)
  · refine go_iconst dX5_isMissing_14 (v := 1) (by decide) ?_
    refine go_goto (tgt := 19) dX5_isMissing_15 (by decide) ?_
    exact go_zret (μ := m_X5_isMissing) dX5_isMissing_19 rfl rfl (Nat.le_of_ble_eq_true rfl) (Nat.le_of_ble_eq_true rfl) (l2 c1)
theorem k_X5_letterAt_0 {x1 x2 : Int32} {hi : Nat → Nat → Int32}
    (l1 : sk_Ct Γ m_X5_cellOf [.int x1, .int x2] (hi, sk_hr rr, sk_ks ++ ex) (fun r h' => sk_Go Γ (sk_M Γ m_X5_letterAt Q) (0, 0) 9 [some (.ref 5), some (.int x1), some (.int x2)] (r.toList ++ [.ref 6]) h')) :
    sk_Go Γ (sk_M Γ m_X5_letterAt Q) (0, 0) 0 [some (.ref 5), some (.int x1), some (.int x2)] [] (hi, sk_hr rr, sk_ks ++ ex) := by
  refine go_aload_n dX5_letterAt_0 rfl ?_
  refine go_getR dX5_letterAt_1 fl_X5_9 rfl rfl (show _ = some 6 from rfl) ?_
  refine go_iload_n dX5_letterAt_4 rfl ?_
  refine go_iload_n dX5_letterAt_5 rfl ?_
  refine go_callS (μ := m_X5_cellOf) (n := 9) [.int x1, .int x2] dX5_letterAt_6 ok_X5_cellOf ml_X5_15 wx_X5_cellOf rfl (Nat.le_of_ble_eq_true rfl) ⟨Nat.le_of_ble_eq_true rfl, Nat.le_of_ble_eq_true rfl⟩ ⟨Nat.le_of_ble_eq_true rfl, Nat.le_of_ble_eq_true rfl⟩ rfl ?_
  exact l1
theorem k_X5_letterAt_9 {x1 x2 s1 : Int32} {hi : Nat → Nat → Int32}
    (o1 : vp_in s1 744)
    (l1 : Q (some (.int ((hi 6 (Int32.toNatClampNeg s1)) - (hi 6 (Int32.toNatClampNeg s1)) / 3 * 3))) (hi, sk_hr rr, sk_ks ++ ex)) :
    sk_Go Γ (sk_M Γ m_X5_letterAt Q) (0, 0) 9 [some (.ref 5), some (.int x1), some (.int x2)] [.int s1, .ref 6] (hi, sk_hr rr, sk_ks ++ ex) := by
  refine go_iald dX5_letterAt_9 (show _ = some (1, 744) from rfl) o1 ?_
  refine go_iconst dX5_letterAt_10 (v := 3) (by decide) ?_
  refine go_irem dX5_letterAt_11 (by decide) ?_
  exact go_iret (μ := m_X5_letterAt) dX5_letterAt_12 rfl (Nat.le_of_ble_eq_true rfl) (Nat.le_of_ble_eq_true rfl) l1
theorem k_X5_valueAt_0 {x1 x2 : Int32} {hi : Nat → Nat → Int32}
    (l1 : sk_Ct Γ m_X5_cellOf [.int x1, .int x2] (hi, sk_hr rr, sk_ks ++ ex) (fun r h' => sk_Go Γ (sk_M Γ m_X5_valueAt Q) (0, 0) 9 [some (.ref 5), some (.int x1), some (.int x2)] (r.toList ++ [.ref 6]) h')) :
    sk_Go Γ (sk_M Γ m_X5_valueAt Q) (0, 0) 0 [some (.ref 5), some (.int x1), some (.int x2)] [] (hi, sk_hr rr, sk_ks ++ ex) := by
  refine go_aload_n dX5_valueAt_0 rfl ?_
  refine go_getR dX5_valueAt_1 fl_X5_9 rfl rfl (show _ = some 6 from rfl) ?_
  refine go_iload_n dX5_valueAt_4 rfl ?_
  refine go_iload_n dX5_valueAt_5 rfl ?_
  refine go_callS (μ := m_X5_cellOf) (n := 9) [.int x1, .int x2] dX5_valueAt_6 ok_X5_cellOf ml_X5_15 wx_X5_cellOf rfl (Nat.le_of_ble_eq_true rfl) ⟨Nat.le_of_ble_eq_true rfl, Nat.le_of_ble_eq_true rfl⟩ ⟨Nat.le_of_ble_eq_true rfl, Nat.le_of_ble_eq_true rfl⟩ rfl ?_
  exact l1
theorem k_X5_valueAt_9 {x1 x2 s1 : Int32} {hi : Nat → Nat → Int32}
    (o1 : vp_in s1 744)
    (l1 : Q (some (.int ((hi 6 (Int32.toNatClampNeg s1)) / 3))) (hi, sk_hr rr, sk_ks ++ ex)) :
    sk_Go Γ (sk_M Γ m_X5_valueAt Q) (0, 0) 9 [some (.ref 5), some (.int x1), some (.int x2)] [.int s1, .ref 6] (hi, sk_hr rr, sk_ks ++ ex) := by
  refine go_iald dX5_valueAt_9 (show _ = some (1, 744) from rfl) o1 ?_
  refine go_iconst dX5_valueAt_10 (v := 3) (by decide) ?_
  refine go_idiv dX5_valueAt_11 (by decide) ?_
  exact go_iret (μ := m_X5_valueAt) dX5_valueAt_12 rfl (Nat.le_of_ble_eq_true rfl) (Nat.le_of_ble_eq_true rfl) l1
theorem k_X2_insert_0 {x1 x2 : Int32} {hi : Nat → Nat → Int32}
    (l1 : sk_Go Γ (sk_M Γ m_X2_insert Q) (0, 0) 2 [some (.ref 18), some (.int x1), some (.int x2), some (.int x1)] [] (hi, sk_hr rr, sk_ks ++ ex)) :
    sk_Go Γ (sk_M Γ m_X2_insert Q) (0, 0) 0 [some (.ref 18), some (.int x1), some (.int x2), none] [] (hi, sk_hr rr, sk_ks ++ ex) := by
  refine go_iload_n dX2_insert_0 rfl ?_
  refine go_istore_n dX2_insert_1 (Nat.le_of_ble_eq_true rfl) ?_
  show sk_Go Γ (sk_M Γ m_X2_insert Q) (0, 0) _ [some (.ref 18), some (.int x1), some (.int x2), some (.int x1)] [] _
  exact l1
theorem k_X2_insert_2 {x1 x2 x3 : Int32} {hi : Nat → Nat → Int32}
    (o1 : x3 ≤ (0 : Int32) → vp_in x3 31)
    (l1 : x3 ≤ (0 : Int32) → Q none ((sk_wi hi 19 (Int32.toNatClampNeg x3) x2), sk_hr rr, sk_ks ++ ex))
    (o2 : ¬ x3 ≤ (0 : Int32) → vp_in (x3 - 1) 31)
    (o3 : ¬ x3 ≤ (0 : Int32) → (hi 19 (Int32.toNatClampNeg (x3 - 1))) ≤ x2 → vp_in x3 31)
    (l2 : ¬ x3 ≤ (0 : Int32) → (hi 19 (Int32.toNatClampNeg (x3 - 1))) ≤ x2 → Q none ((sk_wi hi 19 (Int32.toNatClampNeg x3) x2), sk_hr rr, sk_ks ++ ex))
    (o4 : ¬ x3 ≤ (0 : Int32) → ¬ (hi 19 (Int32.toNatClampNeg (x3 - 1))) ≤ x2 → vp_in x3 31)
    (l3 : ¬ x3 ≤ (0 : Int32) → ¬ (hi 19 (Int32.toNatClampNeg (x3 - 1))) ≤ x2 → sk_Go Γ (sk_M Γ m_X2_insert Q) (0, 0) 2 [some (.ref 18), some (.int x1), some (.int x2), some (.int (x3 + (-1)))] [] ((sk_wi hi 19 (Int32.toNatClampNeg x3) (hi 19 (Int32.toNatClampNeg (x3 - 1)))), sk_hr rr, sk_ks ++ ex)) :
    sk_Go Γ (sk_M Γ m_X2_insert Q) (0, 0) 2 [some (.ref 18), some (.int x1), some (.int x2), some (.int x3)] [] (hi, sk_hr rr, sk_ks ++ ex) := by
  refine go_iload_n dX2_insert_2 rfl ?_
  refine go_if_le (tgt := 38) dX2_insert_3 (by decide) (fun c1 => ?_) (fun c1 => ?_)
  · refine go_aload_n dX2_insert_38 rfl ?_
    refine go_getR dX2_insert_39 fl_X2_9 rfl rfl (show _ = some 19 from rfl) ?_
    refine go_iload_n dX2_insert_42 rfl ?_
    refine go_iload_n dX2_insert_43 rfl ?_
    refine go_iast dX2_insert_44 (show _ = some (1, 31) from rfl) (o1 c1) ?_
    exact go_vret (μ := m_X2_insert) dX2_insert_45 rfl (Nat.le_of_ble_eq_true rfl) (Nat.le_of_ble_eq_true rfl) (l1 c1)
  · refine go_aload_n dX2_insert_6 rfl ?_
    refine go_getR dX2_insert_7 fl_X2_9 rfl rfl (show _ = some 19 from rfl) ?_
    refine go_iload_n dX2_insert_10 rfl ?_
    refine go_iconst dX2_insert_11 (v := 1) (by decide) ?_
    refine go_isub dX2_insert_12 ?_
    refine go_iald dX2_insert_13 (show _ = some (1, 31) from rfl) (o2 c1) ?_
    refine go_iload_n dX2_insert_14 rfl ?_
    refine go_icmp_le (tgt := 38) dX2_insert_15 (by decide) (fun c2 => ?_) (fun c2 => ?_)
    · refine go_aload_n dX2_insert_38 rfl ?_
      refine go_getR dX2_insert_39 fl_X2_9 rfl rfl (show _ = some 19 from rfl) ?_
      refine go_iload_n dX2_insert_42 rfl ?_
      refine go_iload_n dX2_insert_43 rfl ?_
      refine go_iast dX2_insert_44 (show _ = some (1, 31) from rfl) (o3 c1 c2) ?_
      exact go_vret (μ := m_X2_insert) dX2_insert_45 rfl (Nat.le_of_ble_eq_true rfl) (Nat.le_of_ble_eq_true rfl) (l2 c1 c2)
    · refine go_aload_n dX2_insert_18 rfl ?_
      refine go_getR dX2_insert_19 fl_X2_9 rfl rfl (show _ = some 19 from rfl) ?_
      refine go_iload_n dX2_insert_22 rfl ?_
      refine go_aload_n dX2_insert_23 rfl ?_
      refine go_getR dX2_insert_24 fl_X2_9 rfl rfl (show _ = some 19 from rfl) ?_
      refine go_iload_n dX2_insert_27 rfl ?_
      refine go_iconst dX2_insert_28 (v := 1) (by decide) ?_
      refine go_isub dX2_insert_29 ?_
      refine go_iald dX2_insert_30 (show _ = some (1, 31) from rfl) (o2 c1) ?_
      refine go_iast dX2_insert_31 (show _ = some (1, 31) from rfl) (o4 c1 c2) ?_
      refine go_iinc (v := x3 + (-1)) dX2_insert_32 rfl (by rw [show Int32.ofInt (-1) = -1 by decide]) (Nat.le_of_ble_eq_true rfl) ?_
      show sk_Go Γ (sk_M Γ m_X2_insert Q) (0, 0) _ [some (.ref 18), some (.int x1), some (.int x2), some (.int (x3 + (-1)))] [] _
      refine go_goto (tgt := 2) dX2_insert_35 (by decide) ?_
      exact (l3 c1 c2)
theorem k_X2_find_0 {x2 x3 x4 : Int32} {hi : Nat → Nat → Int32}
    (l1 : sk_Go Γ (sk_M Γ m_X2_find Q) (0, 0) 6 [some (.ref 18), some (.ref 5), some (.int x2), some (.int x3), some (.int x4), some (.int 0), some (.int 0), none] [] (hi, sk_hr rr, sk_ks ++ ex)) :
    sk_Go Γ (sk_M Γ m_X2_find Q) (0, 0) 0 [some (.ref 18), some (.ref 5), some (.int x2), some (.int x3), some (.int x4), none, none, none] [] (hi, sk_hr rr, sk_ks ++ ex) := by
  refine go_iconst dX2_find_0 (v := 0) (by decide) ?_
  refine go_istore dX2_find_1 (Nat.le_of_ble_eq_true rfl) ?_
  show sk_Go Γ (sk_M Γ m_X2_find Q) (0, 0) _ [some (.ref 18), some (.ref 5), some (.int x2), some (.int x3), some (.int x4), some (.int 0), none, none] [] _
  refine go_iconst dX2_find_3 (v := 0) (by decide) ?_
  refine go_istore dX2_find_4 (Nat.le_of_ble_eq_true rfl) ?_
  show sk_Go Γ (sk_M Γ m_X2_find Q) (0, 0) _ [some (.ref 18), some (.ref 5), some (.int x2), some (.int x3), some (.int x4), some (.int 0), some (.int 0), none] [] _
  exact l1
theorem k_X2_find_6 {x2 x3 x4 x5 x6 : Int32} {hi : Nat → Nat → Int32}
    (o1 : (31 : Int32) ≤ x6 → ¬ x5 = (0 : Int32) → vp_in ((x5 - 1) / 2) 31)
    (l1 : (31 : Int32) ≤ x6 → ¬ x5 = (0 : Int32) → Q (some (.int (hi 19 (Int32.toNatClampNeg ((x5 - 1) / 2))))) (hi, sk_hr rr, sk_ks ++ ex))
    (l2 : (31 : Int32) ≤ x6 → x5 = (0 : Int32) → Q (some (.int (-2))) (hi, sk_hr rr, sk_ks ++ ex))
    (l3 : ¬ (31 : Int32) ≤ x6 → sk_Ct Γ m_X5_isMissing [.ref 5, .int x2, .int x6] (hi, sk_hr rr, sk_ks ++ ex) (fun r h' => sk_Go Γ (sk_M Γ m_X2_find Q) (0, 0) 20 [some (.ref 18), some (.ref 5), some (.int x2), some (.int x3), some (.int x4), some (.int x5), some (.int x6), none] (r.toList ++ []) h')) :
    sk_Go Γ (sk_M Γ m_X2_find Q) (0, 0) 6 [some (.ref 18), some (.ref 5), some (.int x2), some (.int x3), some (.int x4), some (.int x5), some (.int x6), none] [] (hi, sk_hr rr, sk_ks ++ ex) := by
  refine go_iload dX2_find_6 rfl ?_
  refine go_bipush dX2_find_8 (v := 31) (by decide) ?_
  refine go_icmp_ge (tgt := 73) dX2_find_10 (by decide) (fun c1 => ?_) (fun c1 => ?_)
  · refine go_iload dX2_find_73 rfl ?_
    refine go_if_ne (tgt := 83) dX2_find_75 (by decide) (fun c2 => ?_) (fun c2 => ?_)
    · refine go_aload_n dX2_find_83 rfl ?_
      refine go_getR dX2_find_84 fl_X2_9 rfl rfl (show _ = some 19 from rfl) ?_
      refine go_iload dX2_find_87 rfl ?_
      refine go_iconst dX2_find_89 (v := 1) (by decide) ?_
      refine go_isub dX2_find_90 ?_
      refine go_iconst dX2_find_91 (v := 2) (by decide) ?_
      refine go_idiv dX2_find_92 (by decide) ?_
      refine go_iald dX2_find_93 (show _ = some (1, 31) from rfl) (o1 c1 c2) ?_
      exact go_iret (μ := m_X2_find) dX2_find_94 rfl (Nat.le_of_ble_eq_true rfl) (Nat.le_of_ble_eq_true rfl) (l1 c1 c2)
    · refine go_bipush dX2_find_78 (v := (-2)) (by decide) ?_
      refine go_goto (tgt := 94) dX2_find_80 (by decide) ?_
      exact go_iret (μ := m_X2_find) dX2_find_94 rfl (Nat.le_of_ble_eq_true rfl) (Nat.le_of_ble_eq_true rfl) (l2 c1 c2)
  · refine go_aload_n dX2_find_13 rfl ?_
    refine go_iload_n dX2_find_14 rfl ?_
    refine go_iload dX2_find_15 rfl ?_
    refine go_callV (μ := m_X5_isMissing) (n := 20) (T := TX5) (N := 1) [.int x2, .int x6] dX2_find_17 ok_X5_isMissing ml_X2_15 wx_X5_isMissing wl_X5_isMissing (show _ = some (0, 4) from rfl) rfl rfl (Nat.le_of_ble_eq_true rfl) ⟨Nat.le_of_ble_eq_true rfl, Nat.le_of_ble_eq_true rfl⟩ ⟨Nat.le_of_ble_eq_true rfl, Nat.le_of_ble_eq_true rfl⟩ rfl ?_
    exact (l3 c1)
theorem k_X2_find_20 {x2 x3 x4 x5 x6 s0 : Int32} {hi : Nat → Nat → Int32}
    (l1 : ¬ s0 = (0 : Int32) → sk_Go Γ (sk_M Γ m_X2_find Q) (0, 0) 6 [some (.ref 18), some (.ref 5), some (.int x2), some (.int x3), some (.int x4), some (.int x5), some (.int (x6 + 1)), none] [] (hi, sk_hr rr, sk_ks ++ ex))
    (l2 : s0 = (0 : Int32) → sk_Ct Γ m_X5_letterAt [.ref 5, .int x2, .int x6] (hi, sk_hr rr, sk_ks ++ ex) (fun r h' => sk_Go Γ (sk_M Γ m_X2_find Q) (0, 0) 30 [some (.ref 18), some (.ref 5), some (.int x2), some (.int x3), some (.int x4), some (.int x5), some (.int x6), none] (r.toList ++ []) h')) :
    sk_Go Γ (sk_M Γ m_X2_find Q) (0, 0) 20 [some (.ref 18), some (.ref 5), some (.int x2), some (.int x3), some (.int x4), some (.int x5), some (.int x6), none] [.int s0] (hi, sk_hr rr, sk_ks ++ ex) := by
  refine go_if_ne (tgt := 67) dX2_find_20 (by decide) (fun c1 => ?_) (fun c1 => ?_)
  · refine go_iinc (v := x6 + 1) dX2_find_67 rfl rfl (Nat.le_of_ble_eq_true rfl) ?_
    show sk_Go Γ (sk_M Γ m_X2_find Q) (0, 0) _ [some (.ref 18), some (.ref 5), some (.int x2), some (.int x3), some (.int x4), some (.int x5), some (.int (x6 + 1)), none] [] _
    refine go_goto (tgt := 6) dX2_find_70 (by decide) ?_
    exact (l1 c1)
  · refine go_aload_n dX2_find_23 rfl ?_
    refine go_iload_n dX2_find_24 rfl ?_
    refine go_iload dX2_find_25 rfl ?_
    refine go_callV (μ := m_X5_letterAt) (n := 30) (T := TX5) (N := 1) [.int x2, .int x6] dX2_find_27 ok_X5_letterAt ml_X2_21 wx_X5_letterAt wl_X5_letterAt (show _ = some (0, 4) from rfl) rfl rfl (Nat.le_of_ble_eq_true rfl) ⟨Nat.le_of_ble_eq_true rfl, Nat.le_of_ble_eq_true rfl⟩ ⟨Nat.le_of_ble_eq_true rfl, Nat.le_of_ble_eq_true rfl⟩ rfl ?_
    exact (l2 c1)
theorem k_X2_find_30 {x2 x3 x4 x5 x6 s0 : Int32} {hi : Nat → Nat → Int32}
    (l1 : ¬ s0 = x3 → sk_Ct Γ m_X5_valueAt [.ref 5, .int x2, .int x6] (hi, sk_hr rr, sk_ks ++ ex) (fun r h' => sk_Go Γ (sk_M Γ m_X2_find Q) (0, 0) 61 [some (.ref 18), some (.ref 5), some (.int x2), some (.int x3), some (.int x4), some (.int x5), some (.int x6), some (.int 0)] (r.toList ++ [.int x5, .ref 18]) h'))
    (l2 : s0 = x3 → sk_Go Γ (sk_M Γ m_X2_find Q) (0, 0) 61 [some (.ref 18), some (.ref 5), some (.int x2), some (.int x3), some (.int x4), some (.int x5), some (.int x6), some (.int 1)] [.int x4, .int x5, .ref 18] (hi, sk_hr rr, sk_ks ++ ex)) :
    sk_Go Γ (sk_M Γ m_X2_find Q) (0, 0) 30 [some (.ref 18), some (.ref 5), some (.int x2), some (.int x3), some (.int x4), some (.int x5), some (.int x6), none] [.int s0] (hi, sk_hr rr, sk_ks ++ ex) := by
  refine go_iload_n dX2_find_30 rfl ?_
  refine go_icmp_ne (tgt := 38) dX2_find_31 (by decide) (fun c1 => ?_) (fun c1 => ?_)
  · refine go_iconst dX2_find_38 (v := 0) (by decide) ?_
    refine go_istore dX2_find_39 (Nat.le_of_ble_eq_true rfl) ?_
    show sk_Go Γ (sk_M Γ m_X2_find Q) (0, 0) _ [some (.ref 18), some (.ref 5), some (.int x2), some (.int x3), some (.int x4), some (.int x5), some (.int x6), some (.int 0)] [] _
    refine go_aload_n dX2_find_41 rfl ?_
    refine go_iload dX2_find_42 rfl ?_
    refine go_iload dX2_find_44 rfl ?_
    refine go_if_eq (tgt := 54) dX2_find_46 (by decide) (fun _ => ?_) (fun c0 => absurd c0 (by decide))
    refine go_aload_n dX2_find_54 rfl ?_
    refine go_iload_n dX2_find_55 rfl ?_
    refine go_iload dX2_find_56 rfl ?_
    refine go_callV (μ := m_X5_valueAt) (n := 61) (T := TX5) (N := 1) [.int x2, .int x6] dX2_find_58 ok_X5_valueAt ml_X2_25 wx_X5_valueAt wl_X5_valueAt (show _ = some (0, 4) from rfl) rfl rfl (Nat.le_of_ble_eq_true rfl) ⟨Nat.le_of_ble_eq_true rfl, Nat.le_of_ble_eq_true rfl⟩ ⟨Nat.le_of_ble_eq_true rfl, Nat.le_of_ble_eq_true rfl⟩ rfl ?_
    exact (l1 c1)
  · refine go_iconst dX2_find_34 (v := 1) (by decide) ?_
    refine go_goto (tgt := 39) dX2_find_35 (by decide) ?_
    refine go_istore dX2_find_39 (Nat.le_of_ble_eq_true rfl) ?_
    show sk_Go Γ (sk_M Γ m_X2_find Q) (0, 0) _ [some (.ref 18), some (.ref 5), some (.int x2), some (.int x3), some (.int x4), some (.int x5), some (.int x6), some (.int 1)] [] _
    refine go_aload_n dX2_find_41 rfl ?_
    refine go_iload dX2_find_42 rfl ?_
    refine go_iload dX2_find_44 rfl ?_
    refine go_if_eq (tgt := 54) dX2_find_46 (by decide) (fun c0 => absurd c0 (by decide)) (fun _ => ?_)
    refine go_iload dX2_find_49 rfl ?_
    refine go_goto (tgt := 61) dX2_find_51 (by decide) ?_
    exact (l2 c1)
theorem k_X2_find_61 {x2 x3 x4 x5 x6 x7 s2 s1 : Int32} {hi : Nat → Nat → Int32}
    (l1 : sk_Ct Γ m_X2_insert [.ref 18, .int s1, .int s2] (hi, sk_hr rr, sk_ks ++ ex) (fun r h' => sk_Go Γ (sk_M Γ m_X2_find Q) (0, 0) 64 [some (.ref 18), some (.ref 5), some (.int x2), some (.int x3), some (.int x4), some (.int x5), some (.int x6), some (.int x7)] (r.toList ++ []) h')) :
    sk_Go Γ (sk_M Γ m_X2_find Q) (0, 0) 61 [some (.ref 18), some (.ref 5), some (.int x2), some (.int x3), some (.int x4), some (.int x5), some (.int x6), some (.int x7)] [.int s2, .int s1, .ref 18] (hi, sk_hr rr, sk_ks ++ ex) := by
  refine go_callV (μ := m_X2_insert) (n := 64) (T := TX2) (N := 1) [.int s1, .int s2] dX2_find_61 ok_X2_insert ml_X2_28 wx_X2_insert wl_X2_insert (show _ = some (0, 1) from rfl) rfl rfl (Nat.le_of_ble_eq_true rfl) ⟨Nat.le_of_ble_eq_true rfl, Nat.le_of_ble_eq_true rfl⟩ ⟨Nat.le_of_ble_eq_true rfl, Nat.le_of_ble_eq_true rfl⟩ rfl ?_
  exact l1
theorem k_X2_find_64 {x2 x3 x4 x5 x6 x7 : Int32} {hi : Nat → Nat → Int32}
    (l1 : sk_Go Γ (sk_M Γ m_X2_find Q) (0, 0) 6 [some (.ref 18), some (.ref 5), some (.int x2), some (.int x3), some (.int x4), some (.int (x5 + 1)), some (.int (x6 + 1)), none] [] (hi, sk_hr rr, sk_ks ++ ex)) :
    sk_Go Γ (sk_M Γ m_X2_find Q) (0, 0) 64 [some (.ref 18), some (.ref 5), some (.int x2), some (.int x3), some (.int x4), some (.int x5), some (.int x6), some (.int x7)] [] (hi, sk_hr rr, sk_ks ++ ex) := by
  refine go_iinc (v := x5 + 1) dX2_find_64 rfl rfl (Nat.le_of_ble_eq_true rfl) ?_
  show sk_Go Γ (sk_M Γ m_X2_find Q) (0, 0) _ [some (.ref 18), some (.ref 5), some (.int x2), some (.int x3), some (.int x4), some (.int (x5 + 1)), some (.int x6), some (.int x7)] [] _
  refine go_iinc (v := x6 + 1) dX2_find_67 rfl rfl (Nat.le_of_ble_eq_true rfl) ?_
  show sk_Go Γ (sk_M Γ m_X2_find Q) (0, 0) _ [some (.ref 18), some (.ref 5), some (.int x2), some (.int x3), some (.int x4), some (.int (x5 + 1)), some (.int (x6 + 1)), some (.int x7)] [] _
  refine go_goto (tgt := 6) dX2_find_70 (by decide) ?_
  exact (go_wk l1 (show sk_le _ _ from (And.intro rfl (And.intro rfl (And.intro rfl (And.intro rfl (And.intro rfl (And.intro rfl (And.intro rfl trivial)))))))))
theorem k_X4_standingAt_0 {x1 x2 : Int32} {hi : Nat → Nat → Int32}
    (l1 : sk_Go Γ (sk_M Γ m_X4_standingAt Q) (0, 0) 2 [some (.ref 7), some (.int x1), some (.int x2), some (.int 0)] [] (hi, sk_hr rr, sk_ks ++ ex)) :
    sk_Go Γ (sk_M Γ m_X4_standingAt Q) (0, 0) 0 [some (.ref 7), some (.int x1), some (.int x2), none] [] (hi, sk_hr rr, sk_ks ++ ex) := by
  refine go_iconst dX4_standingAt_0 (v := 0) (by decide) ?_
  refine go_istore_n dX4_standingAt_1 (Nat.le_of_ble_eq_true rfl) ?_
  show sk_Go Γ (sk_M Γ m_X4_standingAt Q) (0, 0) _ [some (.ref 7), some (.int x1), some (.int x2), some (.int 0)] [] _
  exact l1
theorem k_X4_standingAt_2 {x1 x2 x3 : Int32} {hi : Nat → Nat → Int32}
    (l1 : (hi 7 3) ≤ x3 → Q (some (.int (-1))) (hi, sk_hr rr, sk_ks ++ ex))
    (o1 : ¬ (hi 7 3) ≤ x3 → vp_in x3 4)
    (l2 : ¬ (hi 7 3) ≤ x3 → ¬ (hi 8 (Int32.toNatClampNeg x3)) = x1 → sk_Go Γ (sk_M Γ m_X4_standingAt Q) (0, 0) 2 [some (.ref 7), some (.int x1), some (.int x2), some (.int (x3 + 1))] [] (hi, sk_hr rr, sk_ks ++ ex))
    (l3 : ¬ (hi 7 3) ≤ x3 → (hi 8 (Int32.toNatClampNeg x3)) = x1 → ¬ (hi 9 (Int32.toNatClampNeg x3)) = x2 → sk_Go Γ (sk_M Γ m_X4_standingAt Q) (0, 0) 2 [some (.ref 7), some (.int x1), some (.int x2), some (.int (x3 + 1))] [] (hi, sk_hr rr, sk_ks ++ ex))
    (l4 : ¬ (hi 7 3) ≤ x3 → (hi 8 (Int32.toNatClampNeg x3)) = x1 → (hi 9 (Int32.toNatClampNeg x3)) = x2 → Q (some (.int x3)) (hi, sk_hr rr, sk_ks ++ ex)) :
    sk_Go Γ (sk_M Γ m_X4_standingAt Q) (0, 0) 2 [some (.ref 7), some (.int x1), some (.int x2), some (.int x3)] [] (hi, sk_hr rr, sk_ks ++ ex) := by
  refine go_iload_n dX4_standingAt_2 rfl ?_
  refine go_aload_n dX4_standingAt_3 rfl ?_
  refine go_getI dX4_standingAt_4 fl_X4_21 rfl rfl ?_
  refine go_icmp_ge (tgt := 38) dX4_standingAt_7 (by decide) (fun c1 => ?_) (fun c1 => ?_)
  · refine go_iconst dX4_standingAt_38 (v := (-1)) (by decide) ?_
    exact go_iret (μ := m_X4_standingAt) dX4_standingAt_39 rfl (Nat.le_of_ble_eq_true rfl) (Nat.le_of_ble_eq_true rfl) (l1 c1)
  · refine go_aload_n dX4_standingAt_10 rfl ?_
    refine go_getR dX4_standingAt_11 fl_X4_9 rfl rfl (show _ = some 8 from rfl) ?_
    refine go_iload_n dX4_standingAt_14 rfl ?_
    refine go_iald dX4_standingAt_15 (show _ = some (1, 4) from rfl) (o1 c1) ?_
    refine go_iload_n dX4_standingAt_16 rfl ?_
    refine go_icmp_ne (tgt := 32) dX4_standingAt_17 (by decide) (fun c2 => ?_) (fun c2 => ?_)
    · refine go_iinc (v := x3 + 1) dX4_standingAt_32 rfl rfl (Nat.le_of_ble_eq_true rfl) ?_
      show sk_Go Γ (sk_M Γ m_X4_standingAt Q) (0, 0) _ [some (.ref 7), some (.int x1), some (.int x2), some (.int (x3 + 1))] [] _
      refine go_goto (tgt := 2) dX4_standingAt_35 (by decide) ?_
      exact (l2 c1 c2)
    · refine go_aload_n dX4_standingAt_20 rfl ?_
      refine go_getR dX4_standingAt_21 fl_X4_15 rfl rfl (show _ = some 9 from rfl) ?_
      refine go_iload_n dX4_standingAt_24 rfl ?_
      refine go_iald dX4_standingAt_25 (show _ = some (1, 4) from rfl) (o1 c1) ?_
      refine go_iload_n dX4_standingAt_26 rfl ?_
      refine go_icmp_ne (tgt := 32) dX4_standingAt_27 (by decide) (fun c3 => ?_) (fun c3 => ?_)
      · refine go_iinc (v := x3 + 1) dX4_standingAt_32 rfl rfl (Nat.le_of_ble_eq_true rfl) ?_
        show sk_Go Γ (sk_M Γ m_X4_standingAt Q) (0, 0) _ [some (.ref 7), some (.int x1), some (.int x2), some (.int (x3 + 1))] [] _
        refine go_goto (tgt := 2) dX4_standingAt_35 (by decide) ?_
        exact (l3 c1 c2 c3)
      · refine go_iload_n dX4_standingAt_30 rfl ?_
        exact go_iret (μ := m_X4_standingAt) dX4_standingAt_31 rfl (Nat.le_of_ble_eq_true rfl) (Nat.le_of_ble_eq_true rfl) (l4 c1 c2 c3)
theorem k_X4_add_0 {x1 x2 x3 : Int32} {hi : Nat → Nat → Int32}
    (l1 : (4 : Int32) ≤ (hi 7 3) → Q (some (.int (-1))) (hi, sk_hr rr, sk_ks ++ ex))
    (l2 : ¬ (4 : Int32) ≤ (hi 7 3) → sk_Ct Γ m_X4_standingAt [.ref 7, .int x1, .int x2] (hi, sk_hr rr, sk_ks ++ ex) (fun r h' => sk_Go Γ (sk_M Γ m_X4_add Q) (0, 0) 14 [some (.ref 7), some (.int x1), some (.int x2), some (.int x3)] (r.toList ++ []) h')) :
    sk_Go Γ (sk_M Γ m_X4_add Q) (0, 0) 0 [some (.ref 7), some (.int x1), some (.int x2), some (.int x3)] [] (hi, sk_hr rr, sk_ks ++ ex) := by
  refine go_aload_n dX4_add_0 rfl ?_
  refine go_getI dX4_add_1 fl_X4_21 rfl rfl ?_
  refine go_iconst dX4_add_4 (v := 4) (by decide) ?_
  refine go_icmp_ge (tgt := 18) dX4_add_5 (by decide) (fun c1 => ?_) (fun c1 => ?_)
  · refine go_iconst dX4_add_18 (v := (-1)) (by decide) ?_
    exact go_iret (μ := m_X4_add) dX4_add_19 rfl (Nat.le_of_ble_eq_true rfl) (Nat.le_of_ble_eq_true rfl) (l1 c1)
  · refine go_aload_n dX4_add_8 rfl ?_
    refine go_iload_n dX4_add_9 rfl ?_
    refine go_iload_n dX4_add_10 rfl ?_
    refine go_callV (μ := m_X4_standingAt) (n := 14) (T := TX4) (N := 4) [.int x1, .int x2] dX4_add_11 ok_X4_standingAt ml_X4_25 wx_X4_standingAt wl_X4_standingAt (show _ = some (0, 3) from rfl) rfl rfl (Nat.le_of_ble_eq_true rfl) ⟨Nat.le_of_ble_eq_true rfl, Nat.le_of_ble_eq_true rfl⟩ ⟨Nat.le_of_ble_eq_true rfl, Nat.le_of_ble_eq_true rfl⟩ rfl ?_
    exact (l2 c1)
theorem k_X4_add_14 {x1 x2 x3 s0 : Int32} {hi : Nat → Nat → Int32}
    (o1 : s0 = (-1 : Int32) → vp_in (hi 7 3) 4)
    (l1 : s0 = (-1 : Int32) → Q (some (.int (((hi 7 3) + 1) - 1))) ((sk_wi (sk_wi (sk_wi (sk_wi hi 8 (Int32.toNatClampNeg (hi 7 3)) x1) 9 (Int32.toNatClampNeg (hi 7 3)) x2) 10 (Int32.toNatClampNeg (hi 7 3)) x3) 7 3 ((hi 7 3) + 1)), sk_hr rr, sk_ks ++ ex))
    (l2 : ¬ s0 = (-1 : Int32) → Q (some (.int (-1))) (hi, sk_hr rr, sk_ks ++ ex)) :
    sk_Go Γ (sk_M Γ m_X4_add Q) (0, 0) 14 [some (.ref 7), some (.int x1), some (.int x2), some (.int x3)] [.int s0] (hi, sk_hr rr, sk_ks ++ ex) := by
  refine go_iconst dX4_add_14 (v := (-1)) (by decide) ?_
  refine go_icmp_eq (tgt := 20) dX4_add_15 (by decide) (fun c1 => ?_) (fun c1 => ?_)
  · refine go_aload_n dX4_add_20 rfl ?_
    refine go_getR dX4_add_21 fl_X4_9 rfl rfl (show _ = some 8 from rfl) ?_
    refine go_aload_n dX4_add_24 rfl ?_
    refine go_getI dX4_add_25 fl_X4_21 rfl rfl ?_
    refine go_iload_n dX4_add_28 rfl ?_
    refine go_iast dX4_add_29 (show _ = some (1, 4) from rfl) (o1 c1) ?_
    refine go_aload_n dX4_add_30 rfl ?_
    refine go_getR dX4_add_31 fl_X4_15 rfl rfl (show _ = some 9 from rfl) ?_
    refine go_aload_n dX4_add_34 rfl ?_
    refine go_getI dX4_add_35 fl_X4_21 rfl rfl ?_
    refine go_iload_n dX4_add_38 rfl ?_
    refine go_iast dX4_add_39 (show _ = some (1, 4) from rfl) (o1 c1) ?_
    refine go_aload_n dX4_add_40 rfl ?_
    refine go_getR dX4_add_41 fl_X4_18 rfl rfl (show _ = some 10 from rfl) ?_
    refine go_aload_n dX4_add_44 rfl ?_
    refine go_getI dX4_add_45 fl_X4_21 rfl rfl ?_
    refine go_iload_n dX4_add_48 rfl ?_
    refine go_iast dX4_add_49 (show _ = some (1, 4) from rfl) (o1 c1) ?_
    refine go_aload_n dX4_add_50 rfl ?_
    refine go_dup dX4_add_51 rfl ?_
    refine go_getI dX4_add_52 fl_X4_21 rfl rfl ?_
    refine go_iconst dX4_add_55 (v := 1) (by decide) ?_
    refine go_iadd dX4_add_56 ?_
    refine go_putI dX4_add_57 fl_X4_21 rfl rfl ?_
    refine go_aload_n dX4_add_60 rfl ?_
    refine go_getI dX4_add_61 fl_X4_21 rfl rfl ?_
    refine go_iconst dX4_add_64 (v := 1) (by decide) ?_
    refine go_isub dX4_add_65 ?_
    exact go_iret (μ := m_X4_add) dX4_add_66 rfl (Nat.le_of_ble_eq_true rfl) (Nat.le_of_ble_eq_true rfl) (l1 c1)
  · refine go_iconst dX4_add_18 (v := (-1)) (by decide) ?_
    exact go_iret (μ := m_X4_add) dX4_add_19 rfl (Nat.le_of_ble_eq_true rfl) (Nat.le_of_ble_eq_true rfl) (l2 c1)
theorem k_X4_distancesBut_0 {x1 x2 x3 : Int32} {hi : Nat → Nat → Int32}
    (l1 : sk_Go Γ (sk_M Γ m_X4_distancesBut Q) (0, 0) 6 [some (.ref 7), some (.int x1), some (.int x2), some (.int x3), some (.long (1 : Int64)), none, some (.int 0), none, none] [] (hi, sk_hr rr, sk_ks ++ ex)) :
    sk_Go Γ (sk_M Γ m_X4_distancesBut Q) (0, 0) 0 [some (.ref 7), some (.int x1), some (.int x2), some (.int x3), none, none, none, none, none] [] (hi, sk_hr rr, sk_ks ++ ex) := by
  refine go_lconst dX4_distancesBut_0 (v := 1) (by decide) ?_
  refine go_lstore dX4_distancesBut_1 (Nat.le_of_ble_eq_true rfl) ?_
  show sk_Go Γ (sk_M Γ m_X4_distancesBut Q) (0, 0) _ [some (.ref 7), some (.int x1), some (.int x2), some (.int x3), some (.long (1 : Int64)), none, none, none, none] [] _
  refine go_iconst dX4_distancesBut_3 (v := 0) (by decide) ?_
  refine go_istore dX4_distancesBut_4 (Nat.le_of_ble_eq_true rfl) ?_
  show sk_Go Γ (sk_M Γ m_X4_distancesBut Q) (0, 0) _ [some (.ref 7), some (.int x1), some (.int x2), some (.int x3), some (.long (1 : Int64)), none, some (.int 0), none, none] [] _
  exact l1
theorem k_X4_distancesBut_6 {x1 x2 x3 x6 : Int32} {x4 : Int64} {hi : Nat → Nat → Int32}
    (l1 : (hi 7 3) ≤ x6 → Q (some (.long x4)) (hi, sk_hr rr, sk_ks ++ ex))
    (l2 : ¬ (hi 7 3) ≤ x6 → x6 = x1 → sk_Go Γ (sk_M Γ m_X4_distancesBut Q) (0, 0) 6 [some (.ref 7), some (.int x1), some (.int x2), some (.int x3), some (.long x4), none, some (.int (x6 + 1)), none, none] [] (hi, sk_hr rr, sk_ks ++ ex))
    (o1 : ¬ (hi 7 3) ≤ x6 → ¬ x6 = x1 → vp_in x6 4)
    (l3 : ¬ (hi 7 3) ≤ x6 → ¬ x6 = x1 → sk_Go Γ (sk_M Γ m_X4_distancesBut Q) (0, 0) 6 [some (.ref 7), some (.int x1), some (.int x2), some (.int x3), some (.long (x4 * (Int32.toInt64 ((((hi 8 (Int32.toNatClampNeg x6)) - x2) * ((hi 8 (Int32.toNatClampNeg x6)) - x2)) + (((hi 9 (Int32.toNatClampNeg x6)) - x3) * ((hi 9 (Int32.toNatClampNeg x6)) - x3)))))), none, some (.int (x6 + 1)), none, none] [] (hi, sk_hr rr, sk_ks ++ ex)) :
    sk_Go Γ (sk_M Γ m_X4_distancesBut Q) (0, 0) 6 [some (.ref 7), some (.int x1), some (.int x2), some (.int x3), some (.long x4), none, some (.int x6), none, none] [] (hi, sk_hr rr, sk_ks ++ ex) := by
  refine go_iload dX4_distancesBut_6 rfl ?_
  refine go_aload_n dX4_distancesBut_8 rfl ?_
  refine go_getI dX4_distancesBut_9 fl_X4_21 rfl rfl ?_
  refine go_icmp_ge (tgt := 66) dX4_distancesBut_12 (by decide) (fun c1 => ?_) (fun c1 => ?_)
  · refine go_lload dX4_distancesBut_66 rfl ?_
    exact go_lret (μ := m_X4_distancesBut) dX4_distancesBut_68 rfl (Nat.le_of_ble_eq_true rfl) (Nat.le_of_ble_eq_true rfl) (l1 c1)
  · refine go_iload dX4_distancesBut_15 rfl ?_
    refine go_iload_n dX4_distancesBut_17 rfl ?_
    refine go_icmp_eq (tgt := 60) dX4_distancesBut_18 (by decide) (fun c2 => ?_) (fun c2 => ?_)
    · refine go_iinc (v := x6 + 1) dX4_distancesBut_60 rfl rfl (Nat.le_of_ble_eq_true rfl) ?_
      show sk_Go Γ (sk_M Γ m_X4_distancesBut Q) (0, 0) _ [some (.ref 7), some (.int x1), some (.int x2), some (.int x3), some (.long x4), none, some (.int (x6 + 1)), none, none] [] _
      refine go_goto (tgt := 6) dX4_distancesBut_63 (by decide) ?_
      exact (l2 c1 c2)
    · refine go_aload_n dX4_distancesBut_21 rfl ?_
      refine go_getR dX4_distancesBut_22 fl_X4_9 rfl rfl (show _ = some 8 from rfl) ?_
      refine go_iload dX4_distancesBut_25 rfl ?_
      refine go_iald dX4_distancesBut_27 (show _ = some (1, 4) from rfl) (o1 c1 c2) ?_
      refine go_iload_n dX4_distancesBut_28 rfl ?_
      refine go_isub dX4_distancesBut_29 ?_
      refine go_istore dX4_distancesBut_30 (Nat.le_of_ble_eq_true rfl) ?_
      show sk_Go Γ (sk_M Γ m_X4_distancesBut Q) (0, 0) _ [some (.ref 7), some (.int x1), some (.int x2), some (.int x3), some (.long x4), none, some (.int x6), some (.int ((hi 8 (Int32.toNatClampNeg x6)) - x2)), none] [] _
      refine go_aload_n dX4_distancesBut_32 rfl ?_
      refine go_getR dX4_distancesBut_33 fl_X4_15 rfl rfl (show _ = some 9 from rfl) ?_
      refine go_iload dX4_distancesBut_36 rfl ?_
      refine go_iald dX4_distancesBut_38 (show _ = some (1, 4) from rfl) (o1 c1 c2) ?_
      refine go_iload_n dX4_distancesBut_39 rfl ?_
      refine go_isub dX4_distancesBut_40 ?_
      refine go_istore dX4_distancesBut_41 (Nat.le_of_ble_eq_true rfl) ?_
      show sk_Go Γ (sk_M Γ m_X4_distancesBut Q) (0, 0) _ [some (.ref 7), some (.int x1), some (.int x2), some (.int x3), some (.long x4), none, some (.int x6), some (.int ((hi 8 (Int32.toNatClampNeg x6)) - x2)), some (.int ((hi 9 (Int32.toNatClampNeg x6)) - x3))] [] _
      refine go_lload dX4_distancesBut_43 rfl ?_
      refine go_iload dX4_distancesBut_45 rfl ?_
      refine go_iload dX4_distancesBut_47 rfl ?_
      refine go_imul dX4_distancesBut_49 ?_
      refine go_iload dX4_distancesBut_50 rfl ?_
      refine go_iload dX4_distancesBut_52 rfl ?_
      refine go_imul dX4_distancesBut_54 ?_
      refine go_iadd dX4_distancesBut_55 ?_
      refine go_i2l dX4_distancesBut_56 ?_
      refine go_lmul dX4_distancesBut_57 ?_
      refine go_lstore dX4_distancesBut_58 (Nat.le_of_ble_eq_true rfl) ?_
      show sk_Go Γ (sk_M Γ m_X4_distancesBut Q) (0, 0) _ [some (.ref 7), some (.int x1), some (.int x2), some (.int x3), some (.long (x4 * (Int32.toInt64 ((((hi 8 (Int32.toNatClampNeg x6)) - x2) * ((hi 8 (Int32.toNatClampNeg x6)) - x2)) + (((hi 9 (Int32.toNatClampNeg x6)) - x3) * ((hi 9 (Int32.toNatClampNeg x6)) - x3)))))), none, some (.int x6), some (.int ((hi 8 (Int32.toNatClampNeg x6)) - x2)), some (.int ((hi 9 (Int32.toNatClampNeg x6)) - x3))] [] _
      refine go_iinc (v := x6 + 1) dX4_distancesBut_60 rfl rfl (Nat.le_of_ble_eq_true rfl) ?_
      show sk_Go Γ (sk_M Γ m_X4_distancesBut Q) (0, 0) _ [some (.ref 7), some (.int x1), some (.int x2), some (.int x3), some (.long (x4 * (Int32.toInt64 ((((hi 8 (Int32.toNatClampNeg x6)) - x2) * ((hi 8 (Int32.toNatClampNeg x6)) - x2)) + (((hi 9 (Int32.toNatClampNeg x6)) - x3) * ((hi 9 (Int32.toNatClampNeg x6)) - x3)))))), none, some (.int (x6 + 1)), some (.int ((hi 8 (Int32.toNatClampNeg x6)) - x2)), some (.int ((hi 9 (Int32.toNatClampNeg x6)) - x3))] [] _
      refine go_goto (tgt := 6) dX4_distancesBut_63 (by decide) ?_
      exact (go_wk (l3 c1 c2) (show sk_le _ _ from (And.intro rfl (And.intro rfl (And.intro rfl (And.intro rfl (And.intro rfl (And.intro rfl trivial))))))))
theorem k_X4_weighedAt_0 {x1 x2 : Int32} {hi : Nat → Nat → Int32}
    (l1 : sk_Go Γ (sk_M Γ m_X4_weighedAt Q) (0, 0) 8 [some (.ref 7), some (.int x1), some (.int x2), some (.long (0 : Int64)), none, some (.long (0 : Int64)), none, some (.int 0), none, none] [] (hi, sk_hr rr, sk_ks ++ ex)) :
    sk_Go Γ (sk_M Γ m_X4_weighedAt Q) (0, 0) 0 [some (.ref 7), some (.int x1), some (.int x2), none, none, none, none, none, none, none] [] (hi, sk_hr rr, sk_ks ++ ex) := by
  refine go_lconst dX4_weighedAt_0 (v := 0) (by decide) ?_
  refine go_lstore_n dX4_weighedAt_1 (Nat.le_of_ble_eq_true rfl) ?_
  show sk_Go Γ (sk_M Γ m_X4_weighedAt Q) (0, 0) _ [some (.ref 7), some (.int x1), some (.int x2), some (.long (0 : Int64)), none, none, none, none, none, none] [] _
  refine go_lconst dX4_weighedAt_2 (v := 0) (by decide) ?_
  refine go_lstore dX4_weighedAt_3 (Nat.le_of_ble_eq_true rfl) ?_
  show sk_Go Γ (sk_M Γ m_X4_weighedAt Q) (0, 0) _ [some (.ref 7), some (.int x1), some (.int x2), some (.long (0 : Int64)), none, some (.long (0 : Int64)), none, none, none, none] [] _
  refine go_iconst dX4_weighedAt_5 (v := 0) (by decide) ?_
  refine go_istore dX4_weighedAt_6 (Nat.le_of_ble_eq_true rfl) ?_
  show sk_Go Γ (sk_M Γ m_X4_weighedAt Q) (0, 0) _ [some (.ref 7), some (.int x1), some (.int x2), some (.long (0 : Int64)), none, some (.long (0 : Int64)), none, some (.int 0), none, none] [] _
  exact l1
theorem k_X4_weighedAt_8 {x1 x2 x7 : Int32} {x3 x5 : Int64} {hi : Nat → Nat → Int32}
    (o1 : (hi 7 3) ≤ x7 → ¬ (lg_cmp x5 (0 : Int64)) = (0 : Int32) → ¬ x5 = 0)
    (l1 : (hi 7 3) ≤ x7 → ¬ (lg_cmp x5 (0 : Int64)) = (0 : Int32) → Q (some (.int (Int64.toInt32 (x3 / x5)))) (hi, sk_hr rr, sk_ks ++ ex))
    (l2 : (hi 7 3) ≤ x7 → (lg_cmp x5 (0 : Int64)) = (0 : Int32) → Q (some (.int (-1))) (hi, sk_hr rr, sk_ks ++ ex))
    (l3 : ¬ (hi 7 3) ≤ x7 → sk_Ct Γ m_X4_distancesBut [.ref 7, .int x7, .int x1, .int x2] (hi, sk_hr rr, sk_ks ++ ex) (fun r h' => sk_Go Γ (sk_M Γ m_X4_weighedAt Q) (0, 0) 25 [some (.ref 7), some (.int x1), some (.int x2), some (.long x3), none, some (.long x5), none, some (.int x7), none, none] (r.toList ++ []) h')) :
    sk_Go Γ (sk_M Γ m_X4_weighedAt Q) (0, 0) 8 [some (.ref 7), some (.int x1), some (.int x2), some (.long x3), none, some (.long x5), none, some (.int x7), none, none] [] (hi, sk_hr rr, sk_ks ++ ex) := by
  refine go_iload dX4_weighedAt_8 rfl ?_
  refine go_aload_n dX4_weighedAt_10 rfl ?_
  refine go_getI dX4_weighedAt_11 fl_X4_21 rfl rfl ?_
  refine go_icmp_ge (tgt := 54) dX4_weighedAt_14 (by decide) (fun c1 => ?_) (fun c1 => ?_)
  · refine go_lload dX4_weighedAt_54 rfl ?_
    refine go_lconst dX4_weighedAt_56 (v := 0) (by decide) ?_
    refine go_lcmp dX4_weighedAt_57 ?_
    refine go_if_ne (tgt := 65) dX4_weighedAt_58 (by decide) (fun c2 => ?_) (fun c2 => ?_)
    · refine go_lload_n dX4_weighedAt_65 rfl ?_
      refine go_lload dX4_weighedAt_66 rfl ?_
      refine go_ldiv dX4_weighedAt_68 (o1 c1 c2) ?_
      refine go_l2i dX4_weighedAt_69 ?_
      exact go_iret (μ := m_X4_weighedAt) dX4_weighedAt_70 rfl (Nat.le_of_ble_eq_true rfl) (Nat.le_of_ble_eq_true rfl) (l1 c1 c2)
    · refine go_iconst dX4_weighedAt_61 (v := (-1)) (by decide) ?_
      refine go_goto (tgt := 70) dX4_weighedAt_62 (by decide) ?_
      exact go_iret (μ := m_X4_weighedAt) dX4_weighedAt_70 rfl (Nat.le_of_ble_eq_true rfl) (Nat.le_of_ble_eq_true rfl) (l2 c1 c2)
  · refine go_aload_n dX4_weighedAt_17 rfl ?_
    refine go_iload dX4_weighedAt_18 rfl ?_
    refine go_iload_n dX4_weighedAt_20 rfl ?_
    refine go_iload_n dX4_weighedAt_21 rfl ?_
    refine go_callV (μ := m_X4_distancesBut) (n := 25) (T := TX4) (N := 4) [.int x7, .int x1, .int x2] dX4_weighedAt_22 ok_X4_distancesBut ml_X4_32 wx_X4_distancesBut wl_X4_distancesBut (show _ = some (0, 3) from rfl) rfl rfl (Nat.le_of_ble_eq_true rfl) ⟨Nat.le_of_ble_eq_true rfl, Nat.le_of_ble_eq_true rfl⟩ ⟨Nat.le_of_ble_eq_true rfl, Nat.le_of_ble_eq_true rfl⟩ rfl ?_
    exact (l3 c1)
theorem k_X4_weighedAt_25 {x1 x2 x7 : Int32} {x3 x5 s0 : Int64} {hi : Nat → Nat → Int32}
    (o1 : vp_in x7 4)
    (l1 : sk_Go Γ (sk_M Γ m_X4_weighedAt Q) (0, 0) 8 [some (.ref 7), some (.int x1), some (.int x2), some (.long (x3 + (s0 * (Int32.toInt64 (hi 10 (Int32.toNatClampNeg x7)))))), none, some (.long (x5 + s0)), none, some (.int (x7 + 1)), none, none] [] (hi, sk_hr rr, sk_ks ++ ex)) :
    sk_Go Γ (sk_M Γ m_X4_weighedAt Q) (0, 0) 25 [some (.ref 7), some (.int x1), some (.int x2), some (.long x3), none, some (.long x5), none, some (.int x7), none, none] [.long s0] (hi, sk_hr rr, sk_ks ++ ex) := by
  refine go_lstore dX4_weighedAt_25 (Nat.le_of_ble_eq_true rfl) ?_
  show sk_Go Γ (sk_M Γ m_X4_weighedAt Q) (0, 0) _ [some (.ref 7), some (.int x1), some (.int x2), some (.long x3), none, some (.long x5), none, some (.int x7), some (.long s0), none] [] _
  refine go_lload_n dX4_weighedAt_27 rfl ?_
  refine go_lload dX4_weighedAt_28 rfl ?_
  refine go_aload_n dX4_weighedAt_30 rfl ?_
  refine go_getR dX4_weighedAt_31 fl_X4_18 rfl rfl (show _ = some 10 from rfl) ?_
  refine go_iload dX4_weighedAt_34 rfl ?_
  refine go_iald dX4_weighedAt_36 (show _ = some (1, 4) from rfl) o1 ?_
  refine go_i2l dX4_weighedAt_37 ?_
  refine go_lmul dX4_weighedAt_38 ?_
  refine go_ladd dX4_weighedAt_39 ?_
  refine go_lstore_n dX4_weighedAt_40 (Nat.le_of_ble_eq_true rfl) ?_
  show sk_Go Γ (sk_M Γ m_X4_weighedAt Q) (0, 0) _ [some (.ref 7), some (.int x1), some (.int x2), some (.long (x3 + (s0 * (Int32.toInt64 (hi 10 (Int32.toNatClampNeg x7)))))), none, some (.long x5), none, some (.int x7), some (.long s0), none] [] _
  refine go_lload dX4_weighedAt_41 rfl ?_
  refine go_lload dX4_weighedAt_43 rfl ?_
  refine go_ladd dX4_weighedAt_45 ?_
  refine go_lstore dX4_weighedAt_46 (Nat.le_of_ble_eq_true rfl) ?_
  show sk_Go Γ (sk_M Γ m_X4_weighedAt Q) (0, 0) _ [some (.ref 7), some (.int x1), some (.int x2), some (.long (x3 + (s0 * (Int32.toInt64 (hi 10 (Int32.toNatClampNeg x7)))))), none, some (.long (x5 + s0)), none, some (.int x7), some (.long s0), none] [] _
  refine go_iinc (v := x7 + 1) dX4_weighedAt_48 rfl rfl (Nat.le_of_ble_eq_true rfl) ?_
  show sk_Go Γ (sk_M Γ m_X4_weighedAt Q) (0, 0) _ [some (.ref 7), some (.int x1), some (.int x2), some (.long (x3 + (s0 * (Int32.toInt64 (hi 10 (Int32.toNatClampNeg x7)))))), none, some (.long (x5 + s0)), none, some (.int (x7 + 1)), some (.long s0), none] [] _
  refine go_goto (tgt := 8) dX4_weighedAt_51 (by decide) ?_
  exact (go_wk l1 (show sk_le _ _ from (And.intro rfl (And.intro rfl (And.intro rfl (And.intro rfl (And.intro rfl (And.intro rfl trivial))))))))
theorem k_X4_valueAt_0 {x1 x2 : Int32} {hi : Nat → Nat → Int32}
    (l1 : sk_Ct Γ m_X4_standingAt [.ref 7, .int x1, .int x2] (hi, sk_hr rr, sk_ks ++ ex) (fun r h' => sk_Go Γ (sk_M Γ m_X4_valueAt Q) (0, 0) 6 [some (.ref 7), some (.int x1), some (.int x2), none] (r.toList ++ []) h')) :
    sk_Go Γ (sk_M Γ m_X4_valueAt Q) (0, 0) 0 [some (.ref 7), some (.int x1), some (.int x2), none] [] (hi, sk_hr rr, sk_ks ++ ex) := by
  refine go_aload_n dX4_valueAt_0 rfl ?_
  refine go_iload_n dX4_valueAt_1 rfl ?_
  refine go_iload_n dX4_valueAt_2 rfl ?_
  refine go_callV (μ := m_X4_standingAt) (n := 6) (T := TX4) (N := 4) [.int x1, .int x2] dX4_valueAt_3 ok_X4_standingAt ml_X4_25 wx_X4_standingAt wl_X4_standingAt (show _ = some (0, 3) from rfl) rfl rfl (Nat.le_of_ble_eq_true rfl) ⟨Nat.le_of_ble_eq_true rfl, Nat.le_of_ble_eq_true rfl⟩ ⟨Nat.le_of_ble_eq_true rfl, Nat.le_of_ble_eq_true rfl⟩ rfl ?_
  exact l1
theorem k_X4_valueAt_6 {x1 x2 s0 : Int32} {hi : Nat → Nat → Int32}
    (o1 : ¬ s0 = (-1 : Int32) → vp_in s0 4)
    (l1 : ¬ s0 = (-1 : Int32) → Q (some (.int (hi 10 (Int32.toNatClampNeg s0)))) (hi, sk_hr rr, sk_ks ++ ex))
    (l2 : s0 = (-1 : Int32) → sk_Ct Γ m_X4_weighedAt [.ref 7, .int x1, .int x2] (hi, sk_hr rr, sk_ks ++ ex) (fun r h' => sk_Go Γ (sk_M Γ m_X4_valueAt Q) (0, 0) 18 [some (.ref 7), some (.int x1), some (.int x2), some (.int s0)] (r.toList ++ []) h')) :
    sk_Go Γ (sk_M Γ m_X4_valueAt Q) (0, 0) 6 [some (.ref 7), some (.int x1), some (.int x2), none] [.int s0] (hi, sk_hr rr, sk_ks ++ ex) := by
  refine go_istore_n dX4_valueAt_6 (Nat.le_of_ble_eq_true rfl) ?_
  show sk_Go Γ (sk_M Γ m_X4_valueAt Q) (0, 0) _ [some (.ref 7), some (.int x1), some (.int x2), some (.int s0)] [] _
  refine go_iload_n dX4_valueAt_7 rfl ?_
  refine go_iconst dX4_valueAt_8 (v := (-1)) (by decide) ?_
  refine go_icmp_ne (tgt := 21) dX4_valueAt_9 (by decide) (fun c1 => ?_) (fun c1 => ?_)
  · refine go_aload_n dX4_valueAt_21 rfl ?_
    refine go_getR dX4_valueAt_22 fl_X4_18 rfl rfl (show _ = some 10 from rfl) ?_
    refine go_iload_n dX4_valueAt_25 rfl ?_
    refine go_iald dX4_valueAt_26 (show _ = some (1, 4) from rfl) (o1 c1) ?_
    exact go_iret (μ := m_X4_valueAt) dX4_valueAt_27 rfl (Nat.le_of_ble_eq_true rfl) (Nat.le_of_ble_eq_true rfl) (l1 c1)
  · refine go_aload_n dX4_valueAt_12 rfl ?_
    refine go_iload_n dX4_valueAt_13 rfl ?_
    refine go_iload_n dX4_valueAt_14 rfl ?_
    refine go_callV (μ := m_X4_weighedAt) (n := 18) (T := TX4) (N := 4) [.int x1, .int x2] dX4_valueAt_15 ok_X4_weighedAt ml_X4_29 wx_X4_weighedAt wl_X4_weighedAt (show _ = some (0, 3) from rfl) rfl rfl (Nat.le_of_ble_eq_true rfl) ⟨Nat.le_of_ble_eq_true rfl, Nat.le_of_ble_eq_true rfl⟩ ⟨Nat.le_of_ble_eq_true rfl, Nat.le_of_ble_eq_true rfl⟩ rfl ?_
    exact (l2 c1)
theorem k_X4_valueAt_18 {x1 x2 x3 s0 : Int32} {hi : Nat → Nat → Int32}
    (l1 : Q (some (.int s0)) (hi, sk_hr rr, sk_ks ++ ex)) :
    sk_Go Γ (sk_M Γ m_X4_valueAt Q) (0, 0) 18 [some (.ref 7), some (.int x1), some (.int x2), some (.int x3)] [.int s0] (hi, sk_hr rr, sk_ks ++ ex) := by
  refine go_goto (tgt := 27) dX4_valueAt_18 (by decide) ?_
  exact go_iret (μ := m_X4_valueAt) dX4_valueAt_27 rfl (Nat.le_of_ble_eq_true rfl) (Nat.le_of_ble_eq_true rfl) l1
theorem k_X5_put_0 {x1 x2 x3 x4 : Int32} {hi : Nat → Nat → Int32}
    (l1 : sk_Ct Γ m_X5_cellOf [.int x1, .int x2] (hi, sk_hr rr, sk_ks ++ ex) (fun r h' => sk_Go Γ (sk_M Γ m_X5_put Q) (0, 0) 9 [some (.ref 5), some (.int x1), some (.int x2), some (.int x3), some (.int x4)] (r.toList ++ [.ref 6]) h')) :
    sk_Go Γ (sk_M Γ m_X5_put Q) (0, 0) 0 [some (.ref 5), some (.int x1), some (.int x2), some (.int x3), some (.int x4)] [] (hi, sk_hr rr, sk_ks ++ ex) := by
  refine go_aload_n dX5_put_0 rfl ?_
  refine go_getR dX5_put_1 fl_X5_9 rfl rfl (show _ = some 6 from rfl) ?_
  refine go_iload_n dX5_put_4 rfl ?_
  refine go_iload_n dX5_put_5 rfl ?_
  refine go_callS (μ := m_X5_cellOf) (n := 9) [.int x1, .int x2] dX5_put_6 ok_X5_cellOf ml_X5_15 wx_X5_cellOf rfl (Nat.le_of_ble_eq_true rfl) ⟨Nat.le_of_ble_eq_true rfl, Nat.le_of_ble_eq_true rfl⟩ ⟨Nat.le_of_ble_eq_true rfl, Nat.le_of_ble_eq_true rfl⟩ rfl ?_
  exact l1
theorem k_X5_put_9 {x1 x2 x3 x4 s1 : Int32} {hi : Nat → Nat → Int32}
    (o1 : vp_in s1 744)
    (l1 : Q none ((sk_wi hi 6 (Int32.toNatClampNeg s1) ((x3 * 3) + x4)), sk_hr rr, sk_ks ++ ex)) :
    sk_Go Γ (sk_M Γ m_X5_put Q) (0, 0) 9 [some (.ref 5), some (.int x1), some (.int x2), some (.int x3), some (.int x4)] [.int s1, .ref 6] (hi, sk_hr rr, sk_ks ++ ex) := by
  refine go_iload_n dX5_put_9 rfl ?_
  refine go_iconst dX5_put_10 (v := 3) (by decide) ?_
  refine go_imul dX5_put_11 ?_
  refine go_iload dX5_put_12 rfl ?_
  refine go_iadd dX5_put_14 ?_
  refine go_iast dX5_put_15 (show _ = some (1, 744) from rfl) o1 ?_
  exact go_vret (μ := m_X5_put) dX5_put_16 rfl (Nat.le_of_ble_eq_true rfl) (Nat.le_of_ble_eq_true rfl) l1
theorem k_X5_drop_0 {x1 x2 : Int32} {hi : Nat → Nat → Int32}
    (l1 : sk_Ct Γ m_X5_cellOf [.int x1, .int x2] (hi, sk_hr rr, sk_ks ++ ex) (fun r h' => sk_Go Γ (sk_M Γ m_X5_drop Q) (0, 0) 9 [some (.ref 5), some (.int x1), some (.int x2)] (r.toList ++ [.ref 6]) h')) :
    sk_Go Γ (sk_M Γ m_X5_drop Q) (0, 0) 0 [some (.ref 5), some (.int x1), some (.int x2)] [] (hi, sk_hr rr, sk_ks ++ ex) := by
  refine go_aload_n dX5_drop_0 rfl ?_
  refine go_getR dX5_drop_1 fl_X5_9 rfl rfl (show _ = some 6 from rfl) ?_
  refine go_iload_n dX5_drop_4 rfl ?_
  refine go_iload_n dX5_drop_5 rfl ?_
  refine go_callS (μ := m_X5_cellOf) (n := 9) [.int x1, .int x2] dX5_drop_6 ok_X5_cellOf ml_X5_15 wx_X5_cellOf rfl (Nat.le_of_ble_eq_true rfl) ⟨Nat.le_of_ble_eq_true rfl, Nat.le_of_ble_eq_true rfl⟩ ⟨Nat.le_of_ble_eq_true rfl, Nat.le_of_ble_eq_true rfl⟩ rfl ?_
  exact l1
theorem k_X5_drop_9 {x1 x2 s1 : Int32} {hi : Nat → Nat → Int32}
    (o1 : vp_in s1 744)
    (l1 : Q none ((sk_wi hi 6 (Int32.toNatClampNeg s1) (-1)), sk_hr rr, sk_ks ++ ex)) :
    sk_Go Γ (sk_M Γ m_X5_drop Q) (0, 0) 9 [some (.ref 5), some (.int x1), some (.int x2)] [.int s1, .ref 6] (hi, sk_hr rr, sk_ks ++ ex) := by
  refine go_iconst dX5_drop_9 (v := (-1)) (by decide) ?_
  refine go_iast dX5_drop_10 (show _ = some (1, 744) from rfl) o1 ?_
  exact go_vret (μ := m_X5_drop) dX5_drop_11 rfl (Nat.le_of_ble_eq_true rfl) (Nat.le_of_ble_eq_true rfl) l1
theorem k_X5_presentIn_0 {x1 : Int32} {hi : Nat → Nat → Int32}
    (l1 : sk_Go Γ (sk_M Γ m_X5_presentIn Q) (0, 0) 4 [some (.ref 5), some (.int x1), some (.int 0), some (.int 0)] [] (hi, sk_hr rr, sk_ks ++ ex)) :
    sk_Go Γ (sk_M Γ m_X5_presentIn Q) (0, 0) 0 [some (.ref 5), some (.int x1), none, none] [] (hi, sk_hr rr, sk_ks ++ ex) := by
  refine go_iconst dX5_presentIn_0 (v := 0) (by decide) ?_
  refine go_istore_n dX5_presentIn_1 (Nat.le_of_ble_eq_true rfl) ?_
  show sk_Go Γ (sk_M Γ m_X5_presentIn Q) (0, 0) _ [some (.ref 5), some (.int x1), some (.int 0), none] [] _
  refine go_iconst dX5_presentIn_2 (v := 0) (by decide) ?_
  refine go_istore_n dX5_presentIn_3 (Nat.le_of_ble_eq_true rfl) ?_
  show sk_Go Γ (sk_M Γ m_X5_presentIn Q) (0, 0) _ [some (.ref 5), some (.int x1), some (.int 0), some (.int 0)] [] _
  exact l1
theorem k_X5_presentIn_4 {x1 x2 x3 : Int32} {hi : Nat → Nat → Int32}
    (l1 : (31 : Int32) ≤ x3 → Q (some (.int x2)) (hi, sk_hr rr, sk_ks ++ ex))
    (l2 : ¬ (31 : Int32) ≤ x3 → sk_Ct Γ m_X5_isMissing [.ref 5, .int x1, .int x3] (hi, sk_hr rr, sk_ks ++ ex) (fun r h' => sk_Go Γ (sk_M Γ m_X5_presentIn Q) (0, 0) 16 [some (.ref 5), some (.int x1), some (.int x2), some (.int x3)] (r.toList ++ []) h')) :
    sk_Go Γ (sk_M Γ m_X5_presentIn Q) (0, 0) 4 [some (.ref 5), some (.int x1), some (.int x2), some (.int x3)] [] (hi, sk_hr rr, sk_ks ++ ex) := by
  refine go_iload_n dX5_presentIn_4 rfl ?_
  refine go_bipush dX5_presentIn_5 (v := 31) (by decide) ?_
  refine go_icmp_ge (tgt := 28) dX5_presentIn_7 (by decide) (fun c1 => ?_) (fun c1 => ?_)
  · refine go_iload_n dX5_presentIn_28 rfl ?_
    exact go_iret (μ := m_X5_presentIn) dX5_presentIn_29 rfl (Nat.le_of_ble_eq_true rfl) (Nat.le_of_ble_eq_true rfl) (l1 c1)
  · refine go_aload_n dX5_presentIn_10 rfl ?_
    refine go_iload_n dX5_presentIn_11 rfl ?_
    refine go_iload_n dX5_presentIn_12 rfl ?_
    refine go_callV (μ := m_X5_isMissing) (n := 16) (T := TX5) (N := 1) [.int x1, .int x3] dX5_presentIn_13 ok_X5_isMissing ml_X5_19 wx_X5_isMissing wl_X5_isMissing (show _ = some (0, 4) from rfl) rfl rfl (Nat.le_of_ble_eq_true rfl) ⟨Nat.le_of_ble_eq_true rfl, Nat.le_of_ble_eq_true rfl⟩ ⟨Nat.le_of_ble_eq_true rfl, Nat.le_of_ble_eq_true rfl⟩ rfl ?_
    exact (l2 c1)
theorem k_X5_presentIn_16 {x1 x2 x3 s0 : Int32} {hi : Nat → Nat → Int32}
    (l1 : ¬ s0 = (0 : Int32) → sk_Go Γ (sk_M Γ m_X5_presentIn Q) (0, 0) 4 [some (.ref 5), some (.int x1), some (.int x2), some (.int (x3 + 1))] [] (hi, sk_hr rr, sk_ks ++ ex))
    (l2 : s0 = (0 : Int32) → sk_Go Γ (sk_M Γ m_X5_presentIn Q) (0, 0) 4 [some (.ref 5), some (.int x1), some (.int (x2 + 1)), some (.int (x3 + 1))] [] (hi, sk_hr rr, sk_ks ++ ex)) :
    sk_Go Γ (sk_M Γ m_X5_presentIn Q) (0, 0) 16 [some (.ref 5), some (.int x1), some (.int x2), some (.int x3)] [.int s0] (hi, sk_hr rr, sk_ks ++ ex) := by
  refine go_if_ne (tgt := 22) dX5_presentIn_16 (by decide) (fun c1 => ?_) (fun c1 => ?_)
  · refine go_iinc (v := x3 + 1) dX5_presentIn_22 rfl rfl (Nat.le_of_ble_eq_true rfl) ?_
    show sk_Go Γ (sk_M Γ m_X5_presentIn Q) (0, 0) _ [some (.ref 5), some (.int x1), some (.int x2), some (.int (x3 + 1))] [] _
    refine go_goto (tgt := 4) dX5_presentIn_25 (by decide) ?_
    exact (l1 c1)
  · refine go_iinc (v := x2 + 1) dX5_presentIn_19 rfl rfl (Nat.le_of_ble_eq_true rfl) ?_
    show sk_Go Γ (sk_M Γ m_X5_presentIn Q) (0, 0) _ [some (.ref 5), some (.int x1), some (.int (x2 + 1)), some (.int x3)] [] _
    refine go_iinc (v := x3 + 1) dX5_presentIn_22 rfl rfl (Nat.le_of_ble_eq_true rfl) ?_
    show sk_Go Γ (sk_M Γ m_X5_presentIn Q) (0, 0) _ [some (.ref 5), some (.int x1), some (.int (x2 + 1)), some (.int (x3 + 1))] [] _
    refine go_goto (tgt := 4) dX5_presentIn_25 (by decide) ?_
    exact (l2 c1)
theorem k_X5_present_0 {hi : Nat → Nat → Int32}
    (l1 : sk_Go Γ (sk_M Γ m_X5_present Q) (0, 0) 4 [some (.ref 5), some (.int 0), some (.int 0)] [] (hi, sk_hr rr, sk_ks ++ ex)) :
    sk_Go Γ (sk_M Γ m_X5_present Q) (0, 0) 0 [some (.ref 5), none, none] [] (hi, sk_hr rr, sk_ks ++ ex) := by
  refine go_iconst dX5_present_0 (v := 0) (by decide) ?_
  refine go_istore_n dX5_present_1 (Nat.le_of_ble_eq_true rfl) ?_
  show sk_Go Γ (sk_M Γ m_X5_present Q) (0, 0) _ [some (.ref 5), some (.int 0), none] [] _
  refine go_iconst dX5_present_2 (v := 0) (by decide) ?_
  refine go_istore_n dX5_present_3 (Nat.le_of_ble_eq_true rfl) ?_
  show sk_Go Γ (sk_M Γ m_X5_present Q) (0, 0) _ [some (.ref 5), some (.int 0), some (.int 0)] [] _
  exact l1
theorem k_X5_present_4 {x1 x2 : Int32} {hi : Nat → Nat → Int32}
    (l1 : (24 : Int32) ≤ x2 → Q (some (.int x1)) (hi, sk_hr rr, sk_ks ++ ex))
    (l2 : ¬ (24 : Int32) ≤ x2 → sk_Ct Γ m_X5_presentIn [.ref 5, .int x2] (hi, sk_hr rr, sk_ks ++ ex) (fun r h' => sk_Go Γ (sk_M Γ m_X5_present Q) (0, 0) 16 [some (.ref 5), some (.int x1), some (.int x2)] (r.toList ++ [.int x1]) h')) :
    sk_Go Γ (sk_M Γ m_X5_present Q) (0, 0) 4 [some (.ref 5), some (.int x1), some (.int x2)] [] (hi, sk_hr rr, sk_ks ++ ex) := by
  refine go_iload_n dX5_present_4 rfl ?_
  refine go_bipush dX5_present_5 (v := 24) (by decide) ?_
  refine go_icmp_ge (tgt := 24) dX5_present_7 (by decide) (fun c1 => ?_) (fun c1 => ?_)
  · refine go_iload_n dX5_present_24 rfl ?_
    exact go_iret (μ := m_X5_present) dX5_present_25 rfl (Nat.le_of_ble_eq_true rfl) (Nat.le_of_ble_eq_true rfl) (l1 c1)
  · refine go_iload_n dX5_present_10 rfl ?_
    refine go_aload_n dX5_present_11 rfl ?_
    refine go_iload_n dX5_present_12 rfl ?_
    refine go_callV (μ := m_X5_presentIn) (n := 16) (T := TX5) (N := 1) [.int x2] dX5_present_13 ok_X5_presentIn ml_X5_23 wx_X5_presentIn wl_X5_presentIn (show _ = some (0, 4) from rfl) rfl rfl (Nat.le_of_ble_eq_true rfl) ⟨Nat.le_of_ble_eq_true rfl, Nat.le_of_ble_eq_true rfl⟩ ⟨Nat.le_of_ble_eq_true rfl, Nat.le_of_ble_eq_true rfl⟩ rfl ?_
    exact (l2 c1)
theorem k_X5_present_16 {x1 x2 s1 s0 : Int32} {hi : Nat → Nat → Int32}
    (l1 : sk_Go Γ (sk_M Γ m_X5_present Q) (0, 0) 4 [some (.ref 5), some (.int (s0 + s1)), some (.int (x2 + 1))] [] (hi, sk_hr rr, sk_ks ++ ex)) :
    sk_Go Γ (sk_M Γ m_X5_present Q) (0, 0) 16 [some (.ref 5), some (.int x1), some (.int x2)] [.int s1, .int s0] (hi, sk_hr rr, sk_ks ++ ex) := by
  refine go_iadd dX5_present_16 ?_
  refine go_istore_n dX5_present_17 (Nat.le_of_ble_eq_true rfl) ?_
  show sk_Go Γ (sk_M Γ m_X5_present Q) (0, 0) _ [some (.ref 5), some (.int (s0 + s1)), some (.int x2)] [] _
  refine go_iinc (v := x2 + 1) dX5_present_18 rfl rfl (Nat.le_of_ble_eq_true rfl) ?_
  show sk_Go Γ (sk_M Γ m_X5_present Q) (0, 0) _ [some (.ref 5), some (.int (s0 + s1)), some (.int (x2 + 1))] [] _
  refine go_goto (tgt := 4) dX5_present_21 (by decide) ?_
  exact l1
theorem k_X5_lettered_0 {hi : Nat → Nat → Int32}
    (l1 : sk_Go Γ (sk_M Γ m_X5_lettered Q) (0, 0) 4 [some (.ref 5), some (.int 0), some (.int 0), none] [] (hi, sk_hr rr, sk_ks ++ ex)) :
    sk_Go Γ (sk_M Γ m_X5_lettered Q) (0, 0) 0 [some (.ref 5), none, none, none] [] (hi, sk_hr rr, sk_ks ++ ex) := by
  refine go_iconst dX5_lettered_0 (v := 0) (by decide) ?_
  refine go_istore_n dX5_lettered_1 (Nat.le_of_ble_eq_true rfl) ?_
  show sk_Go Γ (sk_M Γ m_X5_lettered Q) (0, 0) _ [some (.ref 5), some (.int 0), none, none] [] _
  refine go_iconst dX5_lettered_2 (v := 0) (by decide) ?_
  refine go_istore_n dX5_lettered_3 (Nat.le_of_ble_eq_true rfl) ?_
  show sk_Go Γ (sk_M Γ m_X5_lettered Q) (0, 0) _ [some (.ref 5), some (.int 0), some (.int 0), none] [] _
  exact l1
theorem k_X5_lettered_4 {x1 x2 : Int32} {hi : Nat → Nat → Int32}
    (l1 : (24 : Int32) ≤ x2 → Q (some (.int x1)) (hi, sk_hr rr, sk_ks ++ ex))
    (l2 : ¬ (24 : Int32) ≤ x2 → sk_Go Γ (sk_M Γ m_X5_lettered Q) (0, 0) 12 [some (.ref 5), some (.int x1), some (.int x2), some (.int 0)] [] (hi, sk_hr rr, sk_ks ++ ex)) :
    sk_Go Γ (sk_M Γ m_X5_lettered Q) (0, 0) 4 [some (.ref 5), some (.int x1), some (.int x2), none] [] (hi, sk_hr rr, sk_ks ++ ex) := by
  refine go_iload_n dX5_lettered_4 rfl ?_
  refine go_bipush dX5_lettered_5 (v := 24) (by decide) ?_
  refine go_icmp_ge (tgt := 51) dX5_lettered_7 (by decide) (fun c1 => ?_) (fun c1 => ?_)
  · refine go_iload_n dX5_lettered_51 rfl ?_
    exact go_iret (μ := m_X5_lettered) dX5_lettered_52 rfl (Nat.le_of_ble_eq_true rfl) (Nat.le_of_ble_eq_true rfl) (l1 c1)
  · refine go_iconst dX5_lettered_10 (v := 0) (by decide) ?_
    refine go_istore_n dX5_lettered_11 (Nat.le_of_ble_eq_true rfl) ?_
    show sk_Go Γ (sk_M Γ m_X5_lettered Q) (0, 0) _ [some (.ref 5), some (.int x1), some (.int x2), some (.int 0)] [] _
    exact (l2 c1)
theorem k_X5_lettered_12 {x1 x2 x3 : Int32} {hi : Nat → Nat → Int32}
    (l1 : (31 : Int32) ≤ x3 → sk_Go Γ (sk_M Γ m_X5_lettered Q) (0, 0) 4 [some (.ref 5), some (.int x1), some (.int (x2 + 1)), none] [] (hi, sk_hr rr, sk_ks ++ ex))
    (l2 : ¬ (31 : Int32) ≤ x3 → sk_Ct Γ m_X5_isMissing [.ref 5, .int x2, .int x3] (hi, sk_hr rr, sk_ks ++ ex) (fun r h' => sk_Go Γ (sk_M Γ m_X5_lettered Q) (0, 0) 24 [some (.ref 5), some (.int x1), some (.int x2), some (.int x3)] (r.toList ++ []) h')) :
    sk_Go Γ (sk_M Γ m_X5_lettered Q) (0, 0) 12 [some (.ref 5), some (.int x1), some (.int x2), some (.int x3)] [] (hi, sk_hr rr, sk_ks ++ ex) := by
  refine go_iload_n dX5_lettered_12 rfl ?_
  refine go_bipush dX5_lettered_13 (v := 31) (by decide) ?_
  refine go_icmp_ge (tgt := 45) dX5_lettered_15 (by decide) (fun c1 => ?_) (fun c1 => ?_)
  · refine go_iinc (v := x2 + 1) dX5_lettered_45 rfl rfl (Nat.le_of_ble_eq_true rfl) ?_
    show sk_Go Γ (sk_M Γ m_X5_lettered Q) (0, 0) _ [some (.ref 5), some (.int x1), some (.int (x2 + 1)), some (.int x3)] [] _
    refine go_goto (tgt := 4) dX5_lettered_48 (by decide) ?_
    exact (go_wk (l1 c1) (show sk_le _ _ from (And.intro rfl (And.intro rfl (And.intro rfl trivial)))))
  · refine go_aload_n dX5_lettered_18 rfl ?_
    refine go_iload_n dX5_lettered_19 rfl ?_
    refine go_iload_n dX5_lettered_20 rfl ?_
    refine go_callV (μ := m_X5_isMissing) (n := 24) (T := TX5) (N := 1) [.int x2, .int x3] dX5_lettered_21 ok_X5_isMissing ml_X5_19 wx_X5_isMissing wl_X5_isMissing (show _ = some (0, 4) from rfl) rfl rfl (Nat.le_of_ble_eq_true rfl) ⟨Nat.le_of_ble_eq_true rfl, Nat.le_of_ble_eq_true rfl⟩ ⟨Nat.le_of_ble_eq_true rfl, Nat.le_of_ble_eq_true rfl⟩ rfl ?_
    exact (l2 c1)
theorem k_X5_lettered_24 {x1 x2 x3 s0 : Int32} {hi : Nat → Nat → Int32}
    (l1 : ¬ s0 = (0 : Int32) → sk_Go Γ (sk_M Γ m_X5_lettered Q) (0, 0) 12 [some (.ref 5), some (.int x1), some (.int x2), some (.int (x3 + 1))] [] (hi, sk_hr rr, sk_ks ++ ex))
    (l2 : s0 = (0 : Int32) → sk_Ct Γ m_X5_letterAt [.ref 5, .int x2, .int x3] (hi, sk_hr rr, sk_ks ++ ex) (fun r h' => sk_Go Γ (sk_M Γ m_X5_lettered Q) (0, 0) 33 [some (.ref 5), some (.int x1), some (.int x2), some (.int x3)] (r.toList ++ []) h')) :
    sk_Go Γ (sk_M Γ m_X5_lettered Q) (0, 0) 24 [some (.ref 5), some (.int x1), some (.int x2), some (.int x3)] [.int s0] (hi, sk_hr rr, sk_ks ++ ex) := by
  refine go_if_ne (tgt := 39) dX5_lettered_24 (by decide) (fun c1 => ?_) (fun c1 => ?_)
  · refine go_iinc (v := x3 + 1) dX5_lettered_39 rfl rfl (Nat.le_of_ble_eq_true rfl) ?_
    show sk_Go Γ (sk_M Γ m_X5_lettered Q) (0, 0) _ [some (.ref 5), some (.int x1), some (.int x2), some (.int (x3 + 1))] [] _
    refine go_goto (tgt := 12) dX5_lettered_42 (by decide) ?_
    exact (l1 c1)
  · refine go_aload_n dX5_lettered_27 rfl ?_
    refine go_iload_n dX5_lettered_28 rfl ?_
    refine go_iload_n dX5_lettered_29 rfl ?_
    refine go_callV (μ := m_X5_letterAt) (n := 33) (T := TX5) (N := 1) [.int x2, .int x3] dX5_lettered_30 ok_X5_letterAt ml_X5_27 wx_X5_letterAt wl_X5_letterAt (show _ = some (0, 4) from rfl) rfl rfl (Nat.le_of_ble_eq_true rfl) ⟨Nat.le_of_ble_eq_true rfl, Nat.le_of_ble_eq_true rfl⟩ ⟨Nat.le_of_ble_eq_true rfl, Nat.le_of_ble_eq_true rfl⟩ rfl ?_
    exact (l2 c1)
theorem k_X5_lettered_33 {x1 x2 x3 s0 : Int32} {hi : Nat → Nat → Int32}
    (l1 : s0 = (0 : Int32) → sk_Go Γ (sk_M Γ m_X5_lettered Q) (0, 0) 12 [some (.ref 5), some (.int x1), some (.int x2), some (.int (x3 + 1))] [] (hi, sk_hr rr, sk_ks ++ ex))
    (l2 : ¬ s0 = (0 : Int32) → sk_Go Γ (sk_M Γ m_X5_lettered Q) (0, 0) 12 [some (.ref 5), some (.int (x1 + 1)), some (.int x2), some (.int (x3 + 1))] [] (hi, sk_hr rr, sk_ks ++ ex)) :
    sk_Go Γ (sk_M Γ m_X5_lettered Q) (0, 0) 33 [some (.ref 5), some (.int x1), some (.int x2), some (.int x3)] [.int s0] (hi, sk_hr rr, sk_ks ++ ex) := by
  refine go_if_eq (tgt := 39) dX5_lettered_33 (by decide) (fun c1 => ?_) (fun c1 => ?_)
  · refine go_iinc (v := x3 + 1) dX5_lettered_39 rfl rfl (Nat.le_of_ble_eq_true rfl) ?_
    show sk_Go Γ (sk_M Γ m_X5_lettered Q) (0, 0) _ [some (.ref 5), some (.int x1), some (.int x2), some (.int (x3 + 1))] [] _
    refine go_goto (tgt := 12) dX5_lettered_42 (by decide) ?_
    exact (l1 c1)
  · refine go_iinc (v := x1 + 1) dX5_lettered_36 rfl rfl (Nat.le_of_ble_eq_true rfl) ?_
    show sk_Go Γ (sk_M Γ m_X5_lettered Q) (0, 0) _ [some (.ref 5), some (.int (x1 + 1)), some (.int x2), some (.int x3)] [] _
    refine go_iinc (v := x3 + 1) dX5_lettered_39 rfl rfl (Nat.le_of_ble_eq_true rfl) ?_
    show sk_Go Γ (sk_M Γ m_X5_lettered Q) (0, 0) _ [some (.ref 5), some (.int (x1 + 1)), some (.int x2), some (.int (x3 + 1))] [] _
    refine go_goto (tgt := 12) dX5_lettered_42 (by decide) ?_
    exact (l2 c1)
end BLK
