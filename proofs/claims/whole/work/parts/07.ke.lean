section BLK
variable {Γ : sk_Cx} {Q : Option Value → sk_Hp → Prop} {rr : Nat → Nat → Option Nat} {ex : List (Nat × Nat)}
theorem k_X9_isIn_0 {x0 x1 x2 : Int32} {hi : Nat → Nat → Int32}
    (l1 : x0 < x1 → Q (some (.int 0)) (hi, sk_hr rr, sk_ks ++ ex))
    (l2 : ¬ x0 < x1 → x2 < x0 → Q (some (.int 0)) (hi, sk_hr rr, sk_ks ++ ex))
    (l3 : ¬ x0 < x1 → ¬ x2 < x0 → Q (some (.int 1)) (hi, sk_hr rr, sk_ks ++ ex)) :
    sk_Go Γ (sk_M Γ m_X9_isIn Q) (0, 0) 0 [some (.int x0), some (.int x1), some (.int x2)] [] (hi, sk_hr rr, sk_ks ++ ex) := by
  refine go_iload_n dX9_isIn_0 rfl ?_
  refine go_iload_n dX9_isIn_1 rfl ?_
  refine go_icmp_lt (tgt := 14) dX9_isIn_2 (by decide) (fun c1 => ?_) (fun c1 => ?_)
  · refine go_iconst dX9_isIn_14 (v := 0) (by decide) ?_
    exact go_zret (μ := m_X9_isIn) dX9_isIn_15 rfl rfl (Nat.le_of_ble_eq_true rfl) (Nat.le_of_ble_eq_true rfl) (l1 c1)
  · refine go_iload_n dX9_isIn_5 rfl ?_
    refine go_iload_n dX9_isIn_6 rfl ?_
    refine go_icmp_gt (tgt := 14) dX9_isIn_7 (by decide) (fun c2 => ?_) (fun c2 => ?_)
    · refine go_iconst dX9_isIn_14 (v := 0) (by decide) ?_
      exact go_zret (μ := m_X9_isIn) dX9_isIn_15 rfl rfl (Nat.le_of_ble_eq_true rfl) (Nat.le_of_ble_eq_true rfl) (l2 c1 c2)
    · refine go_iconst dX9_isIn_10 (v := 1) (by decide) ?_
      refine go_goto (tgt := 15) dX9_isIn_11 (by decide) ?_
      exact go_zret (μ := m_X9_isIn) dX9_isIn_15 rfl rfl (Nat.le_of_ble_eq_true rfl) (Nat.le_of_ble_eq_true rfl) (l3 c1 c2)
theorem k_X9_isBoard_0 {x0 : Int32} {hi : Nat → Nat → Int32}
    (l1 : sk_Ct Γ m_X9_isIn [.int x0, .int 0, .int 3] (hi, sk_hr rr, sk_ks ++ ex) (fun r h' => sk_Go Γ (sk_M Γ m_X9_isBoard Q) (0, 0) 6 [some (.int x0)] (r.toList ++ []) h')) :
    sk_Go Γ (sk_M Γ m_X9_isBoard Q) (0, 0) 0 [some (.int x0)] [] (hi, sk_hr rr, sk_ks ++ ex) := by
  refine go_iload_n dX9_isBoard_0 rfl ?_
  refine go_iconst dX9_isBoard_1 (v := 0) (by decide) ?_
  refine go_iconst dX9_isBoard_2 (v := 3) (by decide) ?_
  refine go_callS (μ := m_X9_isIn) (n := 6) [.int x0, .int 0, .int 3] dX9_isBoard_3 ok_X9_isIn ml_X9_32 wx_X9_isIn rfl (Nat.le_of_ble_eq_true rfl) ⟨Nat.le_of_ble_eq_true rfl, Nat.le_of_ble_eq_true rfl⟩ ⟨Nat.le_of_ble_eq_true rfl, Nat.le_of_ble_eq_true rfl⟩ rfl ?_
  exact l1
theorem k_X9_isBoard_6 {x0 s0 : Int32} {hi : Nat → Nat → Int32}
    (o1 : narrow .boolean (.int s0) = .int s0)
    (l1 : Q (some (.int s0)) (hi, sk_hr rr, sk_ks ++ ex)) :
    sk_Go Γ (sk_M Γ m_X9_isBoard Q) (0, 0) 6 [some (.int x0)] [.int s0] (hi, sk_hr rr, sk_ks ++ ex) := by
  exact go_zret (μ := m_X9_isBoard) dX9_isBoard_6 rfl o1 (Nat.le_of_ble_eq_true rfl) (Nat.le_of_ble_eq_true rfl) l1
theorem k_X9_isPlace_0 {x0 x1 x2 : Int32} {hi : Nat → Nat → Int32}
    (l1 : sk_Ct Γ m_X9_isBoard [.int x0] (hi, sk_hr rr, sk_ks ++ ex) (fun r h' => sk_Go Γ (sk_M Γ m_X9_isPlace Q) (0, 0) 4 [some (.int x0), some (.int x1), some (.int x2)] (r.toList ++ []) h')) :
    sk_Go Γ (sk_M Γ m_X9_isPlace Q) (0, 0) 0 [some (.int x0), some (.int x1), some (.int x2)] [] (hi, sk_hr rr, sk_ks ++ ex) := by
  refine go_iload_n dX9_isPlace_0 rfl ?_
  refine go_callS (μ := m_X9_isBoard) (n := 4) [.int x0] dX9_isPlace_1 ok_X9_isBoard ml_X9_36 wx_X9_isBoard rfl (Nat.le_of_ble_eq_true rfl) ⟨Nat.le_of_ble_eq_true rfl, Nat.le_of_ble_eq_true rfl⟩ ⟨Nat.le_of_ble_eq_true rfl, Nat.le_of_ble_eq_true rfl⟩ rfl ?_
  exact l1
theorem k_X9_isPlace_4 {x0 x1 x2 s0 : Int32} {hi : Nat → Nat → Int32}
    (l1 : s0 = (0 : Int32) → Q (some (.int 0)) (hi, sk_hr rr, sk_ks ++ ex))
    (l2 : ¬ s0 = (0 : Int32) → sk_Ct Γ m_X9_isIn [.int x1, .int 0, .int 23] (hi, sk_hr rr, sk_ks ++ ex) (fun r h' => sk_Go Γ (sk_M Γ m_X9_isPlace Q) (0, 0) 14 [some (.int x0), some (.int x1), some (.int x2)] (r.toList ++ []) h')) :
    sk_Go Γ (sk_M Γ m_X9_isPlace Q) (0, 0) 4 [some (.int x0), some (.int x1), some (.int x2)] [.int s0] (hi, sk_hr rr, sk_ks ++ ex) := by
  refine go_if_eq (tgt := 31) dX9_isPlace_4 (by decide) (fun c1 => ?_) (fun c1 => ?_)
  · refine go_iconst dX9_isPlace_31 (v := 0) (by decide) ?_
    exact go_zret (μ := m_X9_isPlace) dX9_isPlace_32 rfl rfl (Nat.le_of_ble_eq_true rfl) (Nat.le_of_ble_eq_true rfl) (l1 c1)
  · refine go_iload_n dX9_isPlace_7 rfl ?_
    refine go_iconst dX9_isPlace_8 (v := 0) (by decide) ?_
    refine go_bipush dX9_isPlace_9 (v := 23) (by decide) ?_
    refine go_callS (μ := m_X9_isIn) (n := 14) [.int x1, .int 0, .int 23] dX9_isPlace_11 ok_X9_isIn ml_X9_32 wx_X9_isIn rfl (Nat.le_of_ble_eq_true rfl) ⟨Nat.le_of_ble_eq_true rfl, Nat.le_of_ble_eq_true rfl⟩ ⟨Nat.le_of_ble_eq_true rfl, Nat.le_of_ble_eq_true rfl⟩ rfl ?_
    exact (l2 c1)
theorem k_X9_isPlace_14 {x0 x1 x2 s0 : Int32} {hi : Nat → Nat → Int32}
    (l1 : s0 = (0 : Int32) → Q (some (.int 0)) (hi, sk_hr rr, sk_ks ++ ex))
    (l2 : ¬ s0 = (0 : Int32) → sk_Ct Γ m_X9_isIn [.int x2, .int 0, .int 31] (hi, sk_hr rr, sk_ks ++ ex) (fun r h' => sk_Go Γ (sk_M Γ m_X9_isPlace Q) (0, 0) 24 [some (.int x0), some (.int x1), some (.int x2)] (r.toList ++ []) h')) :
    sk_Go Γ (sk_M Γ m_X9_isPlace Q) (0, 0) 14 [some (.int x0), some (.int x1), some (.int x2)] [.int s0] (hi, sk_hr rr, sk_ks ++ ex) := by
  refine go_if_eq (tgt := 31) dX9_isPlace_14 (by decide) (fun c1 => ?_) (fun c1 => ?_)
  · refine go_iconst dX9_isPlace_31 (v := 0) (by decide) ?_
    exact go_zret (μ := m_X9_isPlace) dX9_isPlace_32 rfl rfl (Nat.le_of_ble_eq_true rfl) (Nat.le_of_ble_eq_true rfl) (l1 c1)
  · refine go_iload_n dX9_isPlace_17 rfl ?_
    refine go_iconst dX9_isPlace_18 (v := 0) (by decide) ?_
    refine go_bipush dX9_isPlace_19 (v := 31) (by decide) ?_
    refine go_callS (μ := m_X9_isIn) (n := 24) [.int x2, .int 0, .int 31] dX9_isPlace_21 ok_X9_isIn ml_X9_32 wx_X9_isIn rfl (Nat.le_of_ble_eq_true rfl) ⟨Nat.le_of_ble_eq_true rfl, Nat.le_of_ble_eq_true rfl⟩ ⟨Nat.le_of_ble_eq_true rfl, Nat.le_of_ble_eq_true rfl⟩ rfl ?_
    exact (l2 c1)
theorem k_X9_isPlace_24 {x0 x1 x2 s0 : Int32} {hi : Nat → Nat → Int32}
    (l1 : s0 = (0 : Int32) → Q (some (.int 0)) (hi, sk_hr rr, sk_ks ++ ex))
    (l2 : ¬ s0 = (0 : Int32) → Q (some (.int 1)) (hi, sk_hr rr, sk_ks ++ ex)) :
    sk_Go Γ (sk_M Γ m_X9_isPlace Q) (0, 0) 24 [some (.int x0), some (.int x1), some (.int x2)] [.int s0] (hi, sk_hr rr, sk_ks ++ ex) := by
  refine go_if_eq (tgt := 31) dX9_isPlace_24 (by decide) (fun c1 => ?_) (fun c1 => ?_)
  · refine go_iconst dX9_isPlace_31 (v := 0) (by decide) ?_
    exact go_zret (μ := m_X9_isPlace) dX9_isPlace_32 rfl rfl (Nat.le_of_ble_eq_true rfl) (Nat.le_of_ble_eq_true rfl) (l1 c1)
  · refine go_iconst dX9_isPlace_27 (v := 1) (by decide) ?_
    refine go_goto (tgt := 32) dX9_isPlace_28 (by decide) ?_
    exact go_zret (μ := m_X9_isPlace) dX9_isPlace_32 rfl rfl (Nat.le_of_ble_eq_true rfl) (Nat.le_of_ble_eq_true rfl) (l2 c1)
theorem k_X9_at_0 {x0 x1 x2 : Int32} {hi : Nat → Nat → Int32}
    (l1 : Q (some (.int ((1520 + (((x0 * 24) + x1) * 32)) + x2))) (hi, sk_hr rr, sk_ks ++ ex)) :
    sk_Go Γ (sk_M Γ m_X9_at Q) (0, 0) 0 [some (.int x0), some (.int x1), some (.int x2)] [] (hi, sk_hr rr, sk_ks ++ ex) := by
  refine go_sipush dX9_at_0 (v := 1520) (by decide) ?_
  refine go_iload_n dX9_at_3 rfl ?_
  refine go_bipush dX9_at_4 (v := 24) (by decide) ?_
  refine go_imul dX9_at_6 ?_
  refine go_iload_n dX9_at_7 rfl ?_
  refine go_iadd dX9_at_8 ?_
  refine go_bipush dX9_at_9 (v := 32) (by decide) ?_
  refine go_imul dX9_at_11 ?_
  refine go_iadd dX9_at_12 ?_
  refine go_iload_n dX9_at_13 rfl ?_
  refine go_iadd dX9_at_14 ?_
  exact go_iret (μ := m_X9_at) dX9_at_15 rfl (Nat.le_of_ble_eq_true rfl) (Nat.le_of_ble_eq_true rfl) l1
theorem k_X9_board_0 {x1 x2 x3 x4 : Int32} {hi : Nat → Nat → Int32}
    (l1 : sk_Ct Γ m_X9_isPlace [.int x1, .int x2, .int 0] (hi, sk_hr rr, sk_ks ++ ex) (fun r h' => sk_Go Γ (sk_M Γ m_X9_board Q) (0, 0) 6 [some (.ref 20), some (.int x1), some (.int x2), some (.int x3), some (.int x4), none] (r.toList ++ []) h')) :
    sk_Go Γ (sk_M Γ m_X9_board Q) (0, 0) 0 [some (.ref 20), some (.int x1), some (.int x2), some (.int x3), some (.int x4), none] [] (hi, sk_hr rr, sk_ks ++ ex) := by
  refine go_iload_n dX9_board_0 rfl ?_
  refine go_iload_n dX9_board_1 rfl ?_
  refine go_iconst dX9_board_2 (v := 0) (by decide) ?_
  refine go_callS (μ := m_X9_isPlace) (n := 6) [.int x1, .int x2, .int 0] dX9_board_3 ok_X9_isPlace ml_X9_40 wx_X9_isPlace rfl (Nat.le_of_ble_eq_true rfl) ⟨Nat.le_of_ble_eq_true rfl, Nat.le_of_ble_eq_true rfl⟩ ⟨Nat.le_of_ble_eq_true rfl, Nat.le_of_ble_eq_true rfl⟩ rfl ?_
  exact l1
theorem k_X9_board_6 {x1 x2 x3 x4 s0 : Int32} {hi : Nat → Nat → Int32}
    (l1 : s0 = (0 : Int32) → Q (some (.int 0)) (hi, sk_hr rr, sk_ks ++ ex))
    (l2 : ¬ s0 = (0 : Int32) → sk_Ct Γ m_X9_isIn [.int x3, .int 0, .int 3] (hi, sk_hr rr, sk_ks ++ ex) (fun r h' => sk_Go Γ (sk_M Γ m_X9_board Q) (0, 0) 15 [some (.ref 20), some (.int x1), some (.int x2), some (.int x3), some (.int x4), none] (r.toList ++ []) h')) :
    sk_Go Γ (sk_M Γ m_X9_board Q) (0, 0) 6 [some (.ref 20), some (.int x1), some (.int x2), some (.int x3), some (.int x4), none] [.int s0] (hi, sk_hr rr, sk_ks ++ ex) := by
  refine go_if_eq (tgt := 18) dX9_board_6 (by decide) (fun c1 => ?_) (fun c1 => ?_)
  · refine go_iconst dX9_board_18 (v := 0) (by decide) ?_
    exact go_zret (μ := m_X9_board) dX9_board_19 rfl rfl (Nat.le_of_ble_eq_true rfl) (Nat.le_of_ble_eq_true rfl) (l1 c1)
  · refine go_iload_n dX9_board_9 rfl ?_
    refine go_iconst dX9_board_10 (v := 0) (by decide) ?_
    refine go_iconst dX9_board_11 (v := 3) (by decide) ?_
    refine go_callS (μ := m_X9_isIn) (n := 15) [.int x3, .int 0, .int 3] dX9_board_12 ok_X9_isIn ml_X9_32 wx_X9_isIn rfl (Nat.le_of_ble_eq_true rfl) ⟨Nat.le_of_ble_eq_true rfl, Nat.le_of_ble_eq_true rfl⟩ ⟨Nat.le_of_ble_eq_true rfl, Nat.le_of_ble_eq_true rfl⟩ rfl ?_
    exact (l2 c1)
theorem k_X9_board_15 {x1 x2 x3 x4 s0 : Int32} {hi : Nat → Nat → Int32}
    (l1 : ¬ s0 = (0 : Int32) → sk_Go Γ (sk_M Γ m_X9_board Q) (0, 0) 23 [some (.ref 20), some (.int x1), some (.int x2), some (.int x3), some (.int x4), some (.int 0)] [] (hi, sk_hr rr, sk_ks ++ ex))
    (l2 : s0 = (0 : Int32) → Q (some (.int 0)) (hi, sk_hr rr, sk_ks ++ ex)) :
    sk_Go Γ (sk_M Γ m_X9_board Q) (0, 0) 15 [some (.ref 20), some (.int x1), some (.int x2), some (.int x3), some (.int x4), none] [.int s0] (hi, sk_hr rr, sk_ks ++ ex) := by
  refine go_if_ne (tgt := 20) dX9_board_15 (by decide) (fun c1 => ?_) (fun c1 => ?_)
  · refine go_iconst dX9_board_20 (v := 0) (by decide) ?_
    refine go_istore dX9_board_21 (Nat.le_of_ble_eq_true rfl) ?_
    show sk_Go Γ (sk_M Γ m_X9_board Q) (0, 0) _ [some (.ref 20), some (.int x1), some (.int x2), some (.int x3), some (.int x4), some (.int 0)] [] _
    exact (l1 c1)
  · refine go_iconst dX9_board_18 (v := 0) (by decide) ?_
    exact go_zret (μ := m_X9_board) dX9_board_19 rfl rfl (Nat.le_of_ble_eq_true rfl) (Nat.le_of_ble_eq_true rfl) (l2 c1)
theorem k_X9_board_23 {x1 x2 x3 x4 x5 : Int32} {hi : Nat → Nat → Int32}
    (l1 : (8 : Int32) ≤ x5 → sk_Go Γ (sk_M Γ m_X9_board Q) (0, 0) 59 [some (.ref 20), some (.int x1), some (.int x2), some (.int x3), some (.int x4), some (.int 0)] [] (hi, sk_hr rr, sk_ks ++ ex))
    (l2 : ¬ (8 : Int32) ≤ x5 → ((x4 >>> ((28 - (4 * x5)) &&& 31)) &&& 15) ≤ (9 : Int32) → sk_Go Γ (sk_M Γ m_X9_board Q) (0, 0) 23 [some (.ref 20), some (.int x1), some (.int x2), some (.int x3), some (.int x4), some (.int (x5 + 1))] [] (hi, sk_hr rr, sk_ks ++ ex))
    (l3 : ¬ (8 : Int32) ≤ x5 → ¬ ((x4 >>> ((28 - (4 * x5)) &&& 31)) &&& 15) ≤ (9 : Int32) → Q (some (.int 0)) (hi, sk_hr rr, sk_ks ++ ex)) :
    sk_Go Γ (sk_M Γ m_X9_board Q) (0, 0) 23 [some (.ref 20), some (.int x1), some (.int x2), some (.int x3), some (.int x4), some (.int x5)] [] (hi, sk_hr rr, sk_ks ++ ex) := by
  refine go_iload dX9_board_23 rfl ?_
  refine go_bipush dX9_board_25 (v := 8) (by decide) ?_
  refine go_icmp_ge (tgt := 56) dX9_board_27 (by decide) (fun c1 => ?_) (fun c1 => ?_)
  · refine go_iconst dX9_board_56 (v := 0) (by decide) ?_
    refine go_istore dX9_board_57 (Nat.le_of_ble_eq_true rfl) ?_
    show sk_Go Γ (sk_M Γ m_X9_board Q) (0, 0) _ [some (.ref 20), some (.int x1), some (.int x2), some (.int x3), some (.int x4), some (.int 0)] [] _
    exact (l1 c1)
  · refine go_iload dX9_board_30 rfl ?_
    refine go_bipush dX9_board_32 (v := 28) (by decide) ?_
    refine go_iconst dX9_board_34 (v := 4) (by decide) ?_
    refine go_iload dX9_board_35 rfl ?_
    refine go_imul dX9_board_37 ?_
    refine go_isub dX9_board_38 ?_
    refine go_ishr dX9_board_39 ?_
    refine go_bipush dX9_board_40 (v := 15) (by decide) ?_
    refine go_iand dX9_board_42 ?_
    refine go_bipush dX9_board_43 (v := 9) (by decide) ?_
    refine go_icmp_le (tgt := 50) dX9_board_45 (by decide) (fun c2 => ?_) (fun c2 => ?_)
    · refine go_iinc (v := x5 + 1) dX9_board_50 rfl rfl (Nat.le_of_ble_eq_true rfl) ?_
      show sk_Go Γ (sk_M Γ m_X9_board Q) (0, 0) _ [some (.ref 20), some (.int x1), some (.int x2), some (.int x3), some (.int x4), some (.int (x5 + 1))] [] _
      refine go_goto (tgt := 23) dX9_board_53 (by decide) ?_
      exact (l2 c1 c2)
    · refine go_iconst dX9_board_48 (v := 0) (by decide) ?_
      exact go_zret (μ := m_X9_board) dX9_board_49 rfl rfl (Nat.le_of_ble_eq_true rfl) (Nat.le_of_ble_eq_true rfl) (l3 c1 c2)
theorem k_X9_board_59 {x1 x2 x3 x4 x5 : Int32} {hi : Nat → Nat → Int32}
    (l1 : (8 : Int32) ≤ x5 → Q (some (.int 1)) (hi, sk_hr rr, sk_ks ++ ex))
    (l2 : ¬ (8 : Int32) ≤ x5 → sk_Ct Γ m_X9_at [.int x1, .int x2, .int ((8 * x3) + x5)] (hi, sk_hr rr, sk_ks ++ ex) (fun r h' => sk_Go Γ (sk_M Γ m_X9_board Q) (0, 0) 82 [some (.ref 20), some (.int x1), some (.int x2), some (.int x3), some (.int x4), some (.int x5)] (r.toList ++ [.ref 21]) h')) :
    sk_Go Γ (sk_M Γ m_X9_board Q) (0, 0) 59 [some (.ref 20), some (.int x1), some (.int x2), some (.int x3), some (.int x4), some (.int x5)] [] (hi, sk_hr rr, sk_ks ++ ex) := by
  refine go_iload dX9_board_59 rfl ?_
  refine go_bipush dX9_board_61 (v := 8) (by decide) ?_
  refine go_icmp_ge (tgt := 102) dX9_board_63 (by decide) (fun c1 => ?_) (fun c1 => ?_)
  · refine go_iconst dX9_board_102 (v := 1) (by decide) ?_
    exact go_zret (μ := m_X9_board) dX9_board_103 rfl rfl (Nat.le_of_ble_eq_true rfl) (Nat.le_of_ble_eq_true rfl) (l1 c1)
  · refine go_aload_n dX9_board_66 rfl ?_
    refine go_getR dX9_board_67 fl_X9_7 rfl rfl (show _ = some 21 from rfl) ?_
    refine go_iload_n dX9_board_70 rfl ?_
    refine go_iload_n dX9_board_71 rfl ?_
    refine go_bipush dX9_board_72 (v := 8) (by decide) ?_
    refine go_iload_n dX9_board_74 rfl ?_
    refine go_imul dX9_board_75 ?_
    refine go_iload dX9_board_76 rfl ?_
    refine go_iadd dX9_board_78 ?_
    refine go_callS (μ := m_X9_at) (n := 82) [.int x1, .int x2, .int ((8 * x3) + x5)] dX9_board_79 ok_X9_at ml_X9_43 wx_X9_at rfl (Nat.le_of_ble_eq_true rfl) ⟨Nat.le_of_ble_eq_true rfl, Nat.le_of_ble_eq_true rfl⟩ ⟨Nat.le_of_ble_eq_true rfl, Nat.le_of_ble_eq_true rfl⟩ rfl ?_
    exact (l2 c1)
theorem k_X9_board_82 {x1 x2 x3 x4 x5 s1 : Int32} {hi : Nat → Nat → Int32}
    (o1 : vp_in s1 18368)
    (l1 : sk_Go Γ (sk_M Γ m_X9_board Q) (0, 0) 59 [some (.ref 20), some (.int x1), some (.int x2), some (.int x3), some (.int x4), some (.int (x5 + 1))] [] ((sk_wi hi 21 (Int32.toNatClampNeg s1) ((x4 >>> ((28 - (4 * x5)) &&& 31)) &&& 15)), sk_hr rr, sk_ks ++ ex)) :
    sk_Go Γ (sk_M Γ m_X9_board Q) (0, 0) 82 [some (.ref 20), some (.int x1), some (.int x2), some (.int x3), some (.int x4), some (.int x5)] [.int s1, .ref 21] (hi, sk_hr rr, sk_ks ++ ex) := by
  refine go_iload dX9_board_82 rfl ?_
  refine go_bipush dX9_board_84 (v := 28) (by decide) ?_
  refine go_iconst dX9_board_86 (v := 4) (by decide) ?_
  refine go_iload dX9_board_87 rfl ?_
  refine go_imul dX9_board_89 ?_
  refine go_isub dX9_board_90 ?_
  refine go_ishr dX9_board_91 ?_
  refine go_bipush dX9_board_92 (v := 15) (by decide) ?_
  refine go_iand dX9_board_94 ?_
  refine go_iast dX9_board_95 (show _ = some (1, 18368) from rfl) o1 ?_
  refine go_iinc (v := x5 + 1) dX9_board_96 rfl rfl (Nat.le_of_ble_eq_true rfl) ?_
  show sk_Go Γ (sk_M Γ m_X9_board Q) (0, 0) _ [some (.ref 20), some (.int x1), some (.int x2), some (.int x3), some (.int x4), some (.int (x5 + 1))] [] _
  refine go_goto (tgt := 59) dX9_board_99 (by decide) ?_
  exact l1
theorem k_X9_echo_0 {x1 x2 x3 x4 : Int32} {hi : Nat → Nat → Int32}
    (l1 : sk_Ct Γ m_X9_isPlace [.int x1, .int x2, .int x3] (hi, sk_hr rr, sk_ks ++ ex) (fun r h' => sk_Go Γ (sk_M Γ m_X9_echo Q) (0, 0) 6 [some (.ref 20), some (.int x1), some (.int x2), some (.int x3), some (.int x4)] (r.toList ++ []) h')) :
    sk_Go Γ (sk_M Γ m_X9_echo Q) (0, 0) 0 [some (.ref 20), some (.int x1), some (.int x2), some (.int x3), some (.int x4)] [] (hi, sk_hr rr, sk_ks ++ ex) := by
  refine go_iload_n dX9_echo_0 rfl ?_
  refine go_iload_n dX9_echo_1 rfl ?_
  refine go_iload_n dX9_echo_2 rfl ?_
  refine go_callS (μ := m_X9_isPlace) (n := 6) [.int x1, .int x2, .int x3] dX9_echo_3 ok_X9_isPlace ml_X9_40 wx_X9_isPlace rfl (Nat.le_of_ble_eq_true rfl) ⟨Nat.le_of_ble_eq_true rfl, Nat.le_of_ble_eq_true rfl⟩ ⟨Nat.le_of_ble_eq_true rfl, Nat.le_of_ble_eq_true rfl⟩ rfl ?_
  exact l1
theorem k_X9_echo_6 {x1 x2 x3 x4 s0 : Int32} {hi : Nat → Nat → Int32}
    (l1 : s0 = (0 : Int32) → Q (some (.int 0)) (hi, sk_hr rr, sk_ks ++ ex))
    (l2 : ¬ s0 = (0 : Int32) → sk_Ct Γ m_X9_isIn [.int x4, .int 0, .int 9] (hi, sk_hr rr, sk_ks ++ ex) (fun r h' => sk_Go Γ (sk_M Γ m_X9_echo Q) (0, 0) 17 [some (.ref 20), some (.int x1), some (.int x2), some (.int x3), some (.int x4)] (r.toList ++ []) h')) :
    sk_Go Γ (sk_M Γ m_X9_echo Q) (0, 0) 6 [some (.ref 20), some (.int x1), some (.int x2), some (.int x3), some (.int x4)] [.int s0] (hi, sk_hr rr, sk_ks ++ ex) := by
  refine go_if_eq (tgt := 20) dX9_echo_6 (by decide) (fun c1 => ?_) (fun c1 => ?_)
  · refine go_iconst dX9_echo_20 (v := 0) (by decide) ?_
    exact go_zret (μ := m_X9_echo) dX9_echo_21 rfl rfl (Nat.le_of_ble_eq_true rfl) (Nat.le_of_ble_eq_true rfl) (l1 c1)
  · refine go_iload dX9_echo_9 rfl ?_
    refine go_iconst dX9_echo_11 (v := 0) (by decide) ?_
    refine go_bipush dX9_echo_12 (v := 9) (by decide) ?_
    refine go_callS (μ := m_X9_isIn) (n := 17) [.int x4, .int 0, .int 9] dX9_echo_14 ok_X9_isIn ml_X9_32 wx_X9_isIn rfl (Nat.le_of_ble_eq_true rfl) ⟨Nat.le_of_ble_eq_true rfl, Nat.le_of_ble_eq_true rfl⟩ ⟨Nat.le_of_ble_eq_true rfl, Nat.le_of_ble_eq_true rfl⟩ rfl ?_
    exact (l2 c1)
theorem k_X9_echo_17 {x1 x2 x3 x4 s0 : Int32} {hi : Nat → Nat → Int32}
    (l1 : ¬ s0 = (0 : Int32) → sk_Ct Γ m_X9_at [.int x1, .int x2, .int x3] (hi, sk_hr rr, sk_ks ++ ex) (fun r h' => sk_Go Γ (sk_M Γ m_X9_echo Q) (0, 0) 32 [some (.ref 20), some (.int x1), some (.int x2), some (.int x3), some (.int x4)] (r.toList ++ [.ref 21]) h'))
    (l2 : s0 = (0 : Int32) → Q (some (.int 0)) (hi, sk_hr rr, sk_ks ++ ex)) :
    sk_Go Γ (sk_M Γ m_X9_echo Q) (0, 0) 17 [some (.ref 20), some (.int x1), some (.int x2), some (.int x3), some (.int x4)] [.int s0] (hi, sk_hr rr, sk_ks ++ ex) := by
  refine go_if_ne (tgt := 22) dX9_echo_17 (by decide) (fun c1 => ?_) (fun c1 => ?_)
  · refine go_aload_n dX9_echo_22 rfl ?_
    refine go_getR dX9_echo_23 fl_X9_7 rfl rfl (show _ = some 21 from rfl) ?_
    refine go_iload_n dX9_echo_26 rfl ?_
    refine go_iload_n dX9_echo_27 rfl ?_
    refine go_iload_n dX9_echo_28 rfl ?_
    refine go_callS (μ := m_X9_at) (n := 32) [.int x1, .int x2, .int x3] dX9_echo_29 ok_X9_at ml_X9_43 wx_X9_at rfl (Nat.le_of_ble_eq_true rfl) ⟨Nat.le_of_ble_eq_true rfl, Nat.le_of_ble_eq_true rfl⟩ ⟨Nat.le_of_ble_eq_true rfl, Nat.le_of_ble_eq_true rfl⟩ rfl ?_
    exact (l1 c1)
  · refine go_iconst dX9_echo_20 (v := 0) (by decide) ?_
    exact go_zret (μ := m_X9_echo) dX9_echo_21 rfl rfl (Nat.le_of_ble_eq_true rfl) (Nat.le_of_ble_eq_true rfl) (l2 c1)
theorem k_X9_echo_32 {x1 x2 x3 x4 s1 : Int32} {hi : Nat → Nat → Int32}
    (o1 : vp_in s1 18368)
    (l1 : Q (some (.int 1)) ((sk_wi hi 21 (Int32.toNatClampNeg s1) x4), sk_hr rr, sk_ks ++ ex)) :
    sk_Go Γ (sk_M Γ m_X9_echo Q) (0, 0) 32 [some (.ref 20), some (.int x1), some (.int x2), some (.int x3), some (.int x4)] [.int s1, .ref 21] (hi, sk_hr rr, sk_ks ++ ex) := by
  refine go_iload dX9_echo_32 rfl ?_
  refine go_iast dX9_echo_34 (show _ = some (1, 18368) from rfl) o1 ?_
  refine go_iconst dX9_echo_35 (v := 1) (by decide) ?_
  exact go_zret (μ := m_X9_echo) dX9_echo_36 rfl rfl (Nat.le_of_ble_eq_true rfl) (Nat.le_of_ble_eq_true rfl) l1
theorem k_X9_blank_0 {x1 : Int32} {hi : Nat → Nat → Int32}
    (l1 : sk_Ct Γ m_X9_isBoard [.int x1] (hi, sk_hr rr, sk_ks ++ ex) (fun r h' => sk_Go Γ (sk_M Γ m_X9_blank Q) (0, 0) 4 [some (.ref 20), some (.int x1), none] (r.toList ++ []) h')) :
    sk_Go Γ (sk_M Γ m_X9_blank Q) (0, 0) 0 [some (.ref 20), some (.int x1), none] [] (hi, sk_hr rr, sk_ks ++ ex) := by
  refine go_iload_n dX9_blank_0 rfl ?_
  refine go_callS (μ := m_X9_isBoard) (n := 4) [.int x1] dX9_blank_1 ok_X9_isBoard ml_X9_36 wx_X9_isBoard rfl (Nat.le_of_ble_eq_true rfl) ⟨Nat.le_of_ble_eq_true rfl, Nat.le_of_ble_eq_true rfl⟩ ⟨Nat.le_of_ble_eq_true rfl, Nat.le_of_ble_eq_true rfl⟩ rfl ?_
  exact l1
theorem k_X9_blank_4 {x1 s0 : Int32} {hi : Nat → Nat → Int32}
    (l1 : ¬ s0 = (0 : Int32) → sk_Go Γ (sk_M Γ m_X9_blank Q) (0, 0) 11 [some (.ref 20), some (.int x1), some (.int 0)] [] (hi, sk_hr rr, sk_ks ++ ex))
    (l2 : s0 = (0 : Int32) → Q (some (.int 0)) (hi, sk_hr rr, sk_ks ++ ex)) :
    sk_Go Γ (sk_M Γ m_X9_blank Q) (0, 0) 4 [some (.ref 20), some (.int x1), none] [.int s0] (hi, sk_hr rr, sk_ks ++ ex) := by
  refine go_if_ne (tgt := 9) dX9_blank_4 (by decide) (fun c1 => ?_) (fun c1 => ?_)
  · refine go_iconst dX9_blank_9 (v := 0) (by decide) ?_
    refine go_istore_n dX9_blank_10 (Nat.le_of_ble_eq_true rfl) ?_
    show sk_Go Γ (sk_M Γ m_X9_blank Q) (0, 0) _ [some (.ref 20), some (.int x1), some (.int 0)] [] _
    exact (l1 c1)
  · refine go_iconst dX9_blank_7 (v := 0) (by decide) ?_
    exact go_zret (μ := m_X9_blank) dX9_blank_8 rfl rfl (Nat.le_of_ble_eq_true rfl) (Nat.le_of_ble_eq_true rfl) (l2 c1)
theorem k_X9_blank_11 {x1 x2 : Int32} {hi : Nat → Nat → Int32}
    (l1 : (768 : Int32) ≤ x2 → Q (some (.int 1)) (hi, sk_hr rr, sk_ks ++ ex))
    (l2 : ¬ (768 : Int32) ≤ x2 → sk_Ct Γ m_X9_at [.int x1, .int 0, .int 0] (hi, sk_hr rr, sk_ks ++ ex) (fun r h' => sk_Go Γ (sk_M Γ m_X9_blank Q) (0, 0) 28 [some (.ref 20), some (.int x1), some (.int x2)] (r.toList ++ [.ref 21]) h')) :
    sk_Go Γ (sk_M Γ m_X9_blank Q) (0, 0) 11 [some (.ref 20), some (.int x1), some (.int x2)] [] (hi, sk_hr rr, sk_ks ++ ex) := by
  refine go_iload_n dX9_blank_11 rfl ?_
  refine go_sipush dX9_blank_12 (v := 768) (by decide) ?_
  refine go_icmp_ge (tgt := 38) dX9_blank_15 (by decide) (fun c1 => ?_) (fun c1 => ?_)
  · refine go_iconst dX9_blank_38 (v := 1) (by decide) ?_
    exact go_zret (μ := m_X9_blank) dX9_blank_39 rfl rfl (Nat.le_of_ble_eq_true rfl) (Nat.le_of_ble_eq_true rfl) (l1 c1)
  · refine go_aload_n dX9_blank_18 rfl ?_
    refine go_getR dX9_blank_19 fl_X9_7 rfl rfl (show _ = some 21 from rfl) ?_
    refine go_iload_n dX9_blank_22 rfl ?_
    refine go_iconst dX9_blank_23 (v := 0) (by decide) ?_
    refine go_iconst dX9_blank_24 (v := 0) (by decide) ?_
    refine go_callS (μ := m_X9_at) (n := 28) [.int x1, .int 0, .int 0] dX9_blank_25 ok_X9_at ml_X9_43 wx_X9_at rfl (Nat.le_of_ble_eq_true rfl) ⟨Nat.le_of_ble_eq_true rfl, Nat.le_of_ble_eq_true rfl⟩ ⟨Nat.le_of_ble_eq_true rfl, Nat.le_of_ble_eq_true rfl⟩ rfl ?_
    exact (l2 c1)
theorem k_X9_blank_28 {x1 x2 s1 : Int32} {hi : Nat → Nat → Int32}
    (o1 : vp_in (s1 + x2) 18368)
    (l1 : sk_Go Γ (sk_M Γ m_X9_blank Q) (0, 0) 11 [some (.ref 20), some (.int x1), some (.int (x2 + 1))] [] ((sk_wi hi 21 (Int32.toNatClampNeg (s1 + x2)) 0), sk_hr rr, sk_ks ++ ex)) :
    sk_Go Γ (sk_M Γ m_X9_blank Q) (0, 0) 28 [some (.ref 20), some (.int x1), some (.int x2)] [.int s1, .ref 21] (hi, sk_hr rr, sk_ks ++ ex) := by
  refine go_iload_n dX9_blank_28 rfl ?_
  refine go_iadd dX9_blank_29 ?_
  refine go_iconst dX9_blank_30 (v := 0) (by decide) ?_
  refine go_iast dX9_blank_31 (show _ = some (1, 18368) from rfl) o1 ?_
  refine go_iinc (v := x2 + 1) dX9_blank_32 rfl rfl (Nat.le_of_ble_eq_true rfl) ?_
  show sk_Go Γ (sk_M Γ m_X9_blank Q) (0, 0) _ [some (.ref 20), some (.int x1), some (.int (x2 + 1))] [] _
  refine go_goto (tgt := 11) dX9_blank_35 (by decide) ?_
  exact l1
theorem k_X9_noise_0 {x1 x2 : Int32} {hi : Nat → Nat → Int32}
    (l1 : sk_Ct Γ m_X9_isIn [.int x1, .int 1, .int 9] (hi, sk_hr rr, sk_ks ++ ex) (fun r h' => sk_Go Γ (sk_M Γ m_X9_noise Q) (0, 0) 7 [some (.ref 20), some (.int x1), some (.int x2)] (r.toList ++ []) h')) :
    sk_Go Γ (sk_M Γ m_X9_noise Q) (0, 0) 0 [some (.ref 20), some (.int x1), some (.int x2)] [] (hi, sk_hr rr, sk_ks ++ ex) := by
  refine go_iload_n dX9_noise_0 rfl ?_
  refine go_iconst dX9_noise_1 (v := 1) (by decide) ?_
  refine go_bipush dX9_noise_2 (v := 9) (by decide) ?_
  refine go_callS (μ := m_X9_isIn) (n := 7) [.int x1, .int 1, .int 9] dX9_noise_4 ok_X9_isIn ml_X9_32 wx_X9_isIn rfl (Nat.le_of_ble_eq_true rfl) ⟨Nat.le_of_ble_eq_true rfl, Nat.le_of_ble_eq_true rfl⟩ ⟨Nat.le_of_ble_eq_true rfl, Nat.le_of_ble_eq_true rfl⟩ rfl ?_
  exact l1
theorem k_X9_noise_7 {x1 x2 s0 : Int32} {hi : Nat → Nat → Int32}
    (l1 : s0 = (0 : Int32) → Q (some (.int 0)) (hi, sk_hr rr, sk_ks ++ ex))
    (l2 : ¬ s0 = (0 : Int32) → sk_Ct Γ m_X9_isIn [.int x2, .int 1, .int 32] (hi, sk_hr rr, sk_ks ++ ex) (fun r h' => sk_Go Γ (sk_M Γ m_X9_noise Q) (0, 0) 17 [some (.ref 20), some (.int x1), some (.int x2)] (r.toList ++ []) h')) :
    sk_Go Γ (sk_M Γ m_X9_noise Q) (0, 0) 7 [some (.ref 20), some (.int x1), some (.int x2)] [.int s0] (hi, sk_hr rr, sk_ks ++ ex) := by
  refine go_if_eq (tgt := 20) dX9_noise_7 (by decide) (fun c1 => ?_) (fun c1 => ?_)
  · refine go_iconst dX9_noise_20 (v := 0) (by decide) ?_
    exact go_zret (μ := m_X9_noise) dX9_noise_21 rfl rfl (Nat.le_of_ble_eq_true rfl) (Nat.le_of_ble_eq_true rfl) (l1 c1)
  · refine go_iload_n dX9_noise_10 rfl ?_
    refine go_iconst dX9_noise_11 (v := 1) (by decide) ?_
    refine go_bipush dX9_noise_12 (v := 32) (by decide) ?_
    refine go_callS (μ := m_X9_isIn) (n := 17) [.int x2, .int 1, .int 32] dX9_noise_14 ok_X9_isIn ml_X9_32 wx_X9_isIn rfl (Nat.le_of_ble_eq_true rfl) ⟨Nat.le_of_ble_eq_true rfl, Nat.le_of_ble_eq_true rfl⟩ ⟨Nat.le_of_ble_eq_true rfl, Nat.le_of_ble_eq_true rfl⟩ rfl ?_
    exact (l2 c1)
theorem k_X9_noise_17 {x1 x2 s0 : Int32} {hi : Nat → Nat → Int32}
    (l1 : ¬ s0 = (0 : Int32) → Q (some (.int 1)) ((sk_wi (sk_wi hi 21 0 x1) 21 1 x2), sk_hr rr, sk_ks ++ ex))
    (l2 : s0 = (0 : Int32) → Q (some (.int 0)) (hi, sk_hr rr, sk_ks ++ ex)) :
    sk_Go Γ (sk_M Γ m_X9_noise Q) (0, 0) 17 [some (.ref 20), some (.int x1), some (.int x2)] [.int s0] (hi, sk_hr rr, sk_ks ++ ex) := by
  refine go_if_ne (tgt := 22) dX9_noise_17 (by decide) (fun c1 => ?_) (fun c1 => ?_)
  · refine go_aload_n dX9_noise_22 rfl ?_
    refine go_getR dX9_noise_23 fl_X9_7 rfl rfl (show _ = some 21 from rfl) ?_
    refine go_iconst dX9_noise_26 (v := 0) (by decide) ?_
    refine go_iload_n dX9_noise_27 rfl ?_
    refine go_iast dX9_noise_28 (show _ = some (1, 18368) from rfl) (show ¬ (_ ∨ _) by decide) ?_
    show sk_Go Γ (sk_M Γ m_X9_noise Q) (0, 0) _ [some (.ref 20), some (.int x1), some (.int x2)] [] ((sk_wi hi 21 0 x1), sk_hr rr, sk_ks ++ ex)
    refine go_aload_n dX9_noise_29 rfl ?_
    refine go_getR dX9_noise_30 fl_X9_7 rfl rfl (show _ = some 21 from rfl) ?_
    refine go_iconst dX9_noise_33 (v := 1) (by decide) ?_
    refine go_iload_n dX9_noise_34 rfl ?_
    refine go_iast dX9_noise_35 (show _ = some (1, 18368) from rfl) (show ¬ (_ ∨ _) by decide) ?_
    show sk_Go Γ (sk_M Γ m_X9_noise Q) (0, 0) _ [some (.ref 20), some (.int x1), some (.int x2)] [] ((sk_wi (sk_wi hi 21 0 x1) 21 1 x2), sk_hr rr, sk_ks ++ ex)
    refine go_iconst dX9_noise_36 (v := 1) (by decide) ?_
    exact go_zret (μ := m_X9_noise) dX9_noise_37 rfl rfl (Nat.le_of_ble_eq_true rfl) (Nat.le_of_ble_eq_true rfl) (l1 c1)
  · refine go_iconst dX9_noise_20 (v := 0) (by decide) ?_
    exact go_zret (μ := m_X9_noise) dX9_noise_21 rfl rfl (Nat.le_of_ble_eq_true rfl) (Nat.le_of_ble_eq_true rfl) (l2 c1)
theorem k_X9_shift_0 {x1 : Int32} {hi : Nat → Nat → Int32}
    (l1 : sk_Ct Γ m_X9_isIn [.int x1, .int 1, .int 8] (hi, sk_hr rr, sk_ks ++ ex) (fun r h' => sk_Go Γ (sk_M Γ m_X9_shift Q) (0, 0) 7 [some (.ref 20), some (.int x1)] (r.toList ++ []) h')) :
    sk_Go Γ (sk_M Γ m_X9_shift Q) (0, 0) 0 [some (.ref 20), some (.int x1)] [] (hi, sk_hr rr, sk_ks ++ ex) := by
  refine go_iload_n dX9_shift_0 rfl ?_
  refine go_iconst dX9_shift_1 (v := 1) (by decide) ?_
  refine go_bipush dX9_shift_2 (v := 8) (by decide) ?_
  refine go_callS (μ := m_X9_isIn) (n := 7) [.int x1, .int 1, .int 8] dX9_shift_4 ok_X9_isIn ml_X9_32 wx_X9_isIn rfl (Nat.le_of_ble_eq_true rfl) ⟨Nat.le_of_ble_eq_true rfl, Nat.le_of_ble_eq_true rfl⟩ ⟨Nat.le_of_ble_eq_true rfl, Nat.le_of_ble_eq_true rfl⟩ rfl ?_
  exact l1
theorem k_X9_shift_7 {x1 s0 : Int32} {hi : Nat → Nat → Int32}
    (l1 : ¬ s0 = (0 : Int32) → Q (some (.int 1)) ((sk_wi hi 21 2 x1), sk_hr rr, sk_ks ++ ex))
    (l2 : s0 = (0 : Int32) → Q (some (.int 0)) (hi, sk_hr rr, sk_ks ++ ex)) :
    sk_Go Γ (sk_M Γ m_X9_shift Q) (0, 0) 7 [some (.ref 20), some (.int x1)] [.int s0] (hi, sk_hr rr, sk_ks ++ ex) := by
  refine go_if_ne (tgt := 12) dX9_shift_7 (by decide) (fun c1 => ?_) (fun c1 => ?_)
  · refine go_aload_n dX9_shift_12 rfl ?_
    refine go_getR dX9_shift_13 fl_X9_7 rfl rfl (show _ = some 21 from rfl) ?_
    refine go_iconst dX9_shift_16 (v := 2) (by decide) ?_
    refine go_iload_n dX9_shift_17 rfl ?_
    refine go_iast dX9_shift_18 (show _ = some (1, 18368) from rfl) (show ¬ (_ ∨ _) by decide) ?_
    show sk_Go Γ (sk_M Γ m_X9_shift Q) (0, 0) _ [some (.ref 20), some (.int x1)] [] ((sk_wi hi 21 2 x1), sk_hr rr, sk_ks ++ ex)
    refine go_iconst dX9_shift_19 (v := 1) (by decide) ?_
    exact go_zret (μ := m_X9_shift) dX9_shift_20 rfl rfl (Nat.le_of_ble_eq_true rfl) (Nat.le_of_ble_eq_true rfl) (l1 c1)
  · refine go_iconst dX9_shift_10 (v := 0) (by decide) ?_
    exact go_zret (μ := m_X9_shift) dX9_shift_11 rfl rfl (Nat.le_of_ble_eq_true rfl) (Nat.le_of_ble_eq_true rfl) (l2 c1)
theorem k_X9_isBarred_0 {x1 x2 : Int32} {hi : Nat → Nat → Int32}
    (l1 : sk_Go Γ (sk_M Γ m_X9_isBarred Q) (0, 0) 5 [some (.ref 20), some (.int x1), some (.int x2), some (.int 0), some (.int 0)] [] (hi, sk_hr rr, sk_ks ++ ex)) :
    sk_Go Γ (sk_M Γ m_X9_isBarred Q) (0, 0) 0 [some (.ref 20), some (.int x1), some (.int x2), none, none] [] (hi, sk_hr rr, sk_ks ++ ex) := by
  refine go_iconst dX9_isBarred_0 (v := 0) (by decide) ?_
  refine go_istore_n dX9_isBarred_1 (Nat.le_of_ble_eq_true rfl) ?_
  show sk_Go Γ (sk_M Γ m_X9_isBarred Q) (0, 0) _ [some (.ref 20), some (.int x1), some (.int x2), some (.int 0), none] [] _
  refine go_iconst dX9_isBarred_2 (v := 0) (by decide) ?_
  refine go_istore dX9_isBarred_3 (Nat.le_of_ble_eq_true rfl) ?_
  show sk_Go Γ (sk_M Γ m_X9_isBarred Q) (0, 0) _ [some (.ref 20), some (.int x1), some (.int x2), some (.int 0), some (.int 0)] [] _
  exact l1
theorem k_X9_isBarred_5 {x1 x2 x3 x4 : Int32} {hi : Nat → Nat → Int32}
    (l1 : (32 : Int32) ≤ x4 → x3 < (hi 21 1) → Q (some (.int 0)) (hi, sk_hr rr, sk_ks ++ ex))
    (l2 : (32 : Int32) ≤ x4 → ¬ x3 < (hi 21 1) → Q (some (.int 1)) (hi, sk_hr rr, sk_ks ++ ex))
    (l3 : ¬ (32 : Int32) ≤ x4 → sk_Ct Γ m_X9_at [.int x1, .int x2, .int x4] (hi, sk_hr rr, sk_ks ++ ex) (fun r h' => sk_Go Γ (sk_M Γ m_X9_isBarred Q) (0, 0) 24 [some (.ref 20), some (.int x1), some (.int x2), some (.int x3), some (.int x4)] (r.toList ++ [.ref 21, .int x3]) h')) :
    sk_Go Γ (sk_M Γ m_X9_isBarred Q) (0, 0) 5 [some (.ref 20), some (.int x1), some (.int x2), some (.int x3), some (.int x4)] [] (hi, sk_hr rr, sk_ks ++ ex) := by
  refine go_iload dX9_isBarred_5 rfl ?_
  refine go_bipush dX9_isBarred_7 (v := 32) (by decide) ?_
  refine go_icmp_ge (tgt := 47) dX9_isBarred_9 (by decide) (fun c1 => ?_) (fun c1 => ?_)
  · refine go_iload_n dX9_isBarred_47 rfl ?_
    refine go_aload_n dX9_isBarred_48 rfl ?_
    refine go_getR dX9_isBarred_49 fl_X9_7 rfl rfl (show _ = some 21 from rfl) ?_
    refine go_iconst dX9_isBarred_52 (v := 1) (by decide) ?_
    refine go_iald dX9_isBarred_53 (show _ = some (1, 18368) from rfl) (show ¬ (_ ∨ _) by decide) ?_
    show sk_Go Γ (sk_M Γ m_X9_isBarred Q) (0, 0) _ [some (.ref 20), some (.int x1), some (.int x2), some (.int x3), some (.int x4)] [.int (hi 21 1), .int x3] _
    refine go_icmp_lt (tgt := 61) dX9_isBarred_54 (by decide) (fun c2 => ?_) (fun c2 => ?_)
    · refine go_iconst dX9_isBarred_61 (v := 0) (by decide) ?_
      exact go_zret (μ := m_X9_isBarred) dX9_isBarred_62 rfl rfl (Nat.le_of_ble_eq_true rfl) (Nat.le_of_ble_eq_true rfl) (l1 c1 c2)
    · refine go_iconst dX9_isBarred_57 (v := 1) (by decide) ?_
      refine go_goto (tgt := 62) dX9_isBarred_58 (by decide) ?_
      exact go_zret (μ := m_X9_isBarred) dX9_isBarred_62 rfl rfl (Nat.le_of_ble_eq_true rfl) (Nat.le_of_ble_eq_true rfl) (l2 c1 c2)
  · refine go_iload_n dX9_isBarred_12 rfl ?_
    refine go_aload_n dX9_isBarred_13 rfl ?_
    refine go_getR dX9_isBarred_14 fl_X9_7 rfl rfl (show _ = some 21 from rfl) ?_
    refine go_iload_n dX9_isBarred_17 rfl ?_
    refine go_iload_n dX9_isBarred_18 rfl ?_
    refine go_iload dX9_isBarred_19 rfl ?_
    refine go_callS (μ := m_X9_at) (n := 24) [.int x1, .int x2, .int x4] dX9_isBarred_21 ok_X9_at ml_X9_43 wx_X9_at rfl (Nat.le_of_ble_eq_true rfl) ⟨Nat.le_of_ble_eq_true rfl, Nat.le_of_ble_eq_true rfl⟩ ⟨Nat.le_of_ble_eq_true rfl, Nat.le_of_ble_eq_true rfl⟩ rfl ?_
    exact (l3 c1)
theorem k_X9_isBarred_24 {x1 x2 x3 x4 s2 s0 : Int32} {hi : Nat → Nat → Int32}
    (o1 : vp_in s2 18368)
    (l1 : (hi 21 (Int32.toNatClampNeg s2)) < (hi 21 0) → sk_Go Γ (sk_M Γ m_X9_isBarred Q) (0, 0) 5 [some (.ref 20), some (.int x1), some (.int x2), some (.int (s0 + 0)), some (.int (x4 + 1))] [] (hi, sk_hr rr, sk_ks ++ ex))
    (l2 : ¬ (hi 21 (Int32.toNatClampNeg s2)) < (hi 21 0) → sk_Go Γ (sk_M Γ m_X9_isBarred Q) (0, 0) 5 [some (.ref 20), some (.int x1), some (.int x2), some (.int (s0 + 1)), some (.int (x4 + 1))] [] (hi, sk_hr rr, sk_ks ++ ex)) :
    sk_Go Γ (sk_M Γ m_X9_isBarred Q) (0, 0) 24 [some (.ref 20), some (.int x1), some (.int x2), some (.int x3), some (.int x4)] [.int s2, .ref 21, .int s0] (hi, sk_hr rr, sk_ks ++ ex) := by
  refine go_iald dX9_isBarred_24 (show _ = some (1, 18368) from rfl) o1 ?_
  refine go_aload_n dX9_isBarred_25 rfl ?_
  refine go_getR dX9_isBarred_26 fl_X9_7 rfl rfl (show _ = some 21 from rfl) ?_
  refine go_iconst dX9_isBarred_29 (v := 0) (by decide) ?_
  refine go_iald dX9_isBarred_30 (show _ = some (1, 18368) from rfl) (show ¬ (_ ∨ _) by decide) ?_
  show sk_Go Γ (sk_M Γ m_X9_isBarred Q) (0, 0) _ [some (.ref 20), some (.int x1), some (.int x2), some (.int x3), some (.int x4)] [.int (hi 21 0), .int (hi 21 (Int32.toNatClampNeg s2)), .int s0] _
  refine go_icmp_lt (tgt := 38) dX9_isBarred_31 (by decide) (fun c1 => ?_) (fun c1 => ?_)
  · refine go_iconst dX9_isBarred_38 (v := 0) (by decide) ?_
    refine go_iadd dX9_isBarred_39 ?_
    refine go_istore_n dX9_isBarred_40 (Nat.le_of_ble_eq_true rfl) ?_
    show sk_Go Γ (sk_M Γ m_X9_isBarred Q) (0, 0) _ [some (.ref 20), some (.int x1), some (.int x2), some (.int (s0 + 0)), some (.int x4)] [] _
    refine go_iinc (v := x4 + 1) dX9_isBarred_41 rfl rfl (Nat.le_of_ble_eq_true rfl) ?_
    show sk_Go Γ (sk_M Γ m_X9_isBarred Q) (0, 0) _ [some (.ref 20), some (.int x1), some (.int x2), some (.int (s0 + 0)), some (.int (x4 + 1))] [] _
    refine go_goto (tgt := 5) dX9_isBarred_44 (by decide) ?_
    exact (l1 c1)
  · refine go_iconst dX9_isBarred_34 (v := 1) (by decide) ?_
    refine go_goto (tgt := 39) dX9_isBarred_35 (by decide) ?_
    refine go_iadd dX9_isBarred_39 ?_
    refine go_istore_n dX9_isBarred_40 (Nat.le_of_ble_eq_true rfl) ?_
    show sk_Go Γ (sk_M Γ m_X9_isBarred Q) (0, 0) _ [some (.ref 20), some (.int x1), some (.int x2), some (.int (s0 + 1)), some (.int x4)] [] _
    refine go_iinc (v := x4 + 1) dX9_isBarred_41 rfl rfl (Nat.le_of_ble_eq_true rfl) ?_
    show sk_Go Γ (sk_M Γ m_X9_isBarred Q) (0, 0) _ [some (.ref 20), some (.int x1), some (.int x2), some (.int (s0 + 1)), some (.int (x4 + 1))] [] _
    refine go_goto (tgt := 5) dX9_isBarred_44 (by decide) ?_
    exact (l2 c1)
theorem k_X9_echoOf_0 {x1 x2 x3 : Int32} {hi : Nat → Nat → Int32}
    (l1 : (24 : Int32) ≤ x2 → Q (some (.int 0)) (hi, sk_hr rr, sk_ks ++ ex))
    (l2 : ¬ (24 : Int32) ≤ x2 → sk_Ct Γ m_X9_isBarred [.ref 20, .int x1, .int x2] (hi, sk_hr rr, sk_ks ++ ex) (fun r h' => sk_Go Γ (sk_M Γ m_X9_echoOf Q) (0, 0) 12 [some (.ref 20), some (.int x1), some (.int x2), some (.int x3)] (r.toList ++ []) h')) :
    sk_Go Γ (sk_M Γ m_X9_echoOf Q) (0, 0) 0 [some (.ref 20), some (.int x1), some (.int x2), some (.int x3)] [] (hi, sk_hr rr, sk_ks ++ ex) := by
  refine go_iload_n dX9_echoOf_0 rfl ?_
  refine go_bipush dX9_echoOf_1 (v := 24) (by decide) ?_
  refine go_icmp_ge (tgt := 29) dX9_echoOf_3 (by decide) (fun c1 => ?_) (fun c1 => ?_)
  · refine go_iconst dX9_echoOf_29 (v := 0) (by decide) ?_
    exact go_iret (μ := m_X9_echoOf) dX9_echoOf_30 rfl (Nat.le_of_ble_eq_true rfl) (Nat.le_of_ble_eq_true rfl) (l1 c1)
  · refine go_aload_n dX9_echoOf_6 rfl ?_
    refine go_iload_n dX9_echoOf_7 rfl ?_
    refine go_iload_n dX9_echoOf_8 rfl ?_
    refine go_callV (μ := m_X9_isBarred) (n := 12) (T := TX9) (N := 10) [.int x1, .int x2] dX9_echoOf_9 ok_X9_isBarred ml_X9_47 wx_X9_isBarred wl_X9_isBarred (show _ = some (0, 8) from rfl) rfl rfl (Nat.le_of_ble_eq_true rfl) ⟨Nat.le_of_ble_eq_true rfl, Nat.le_of_ble_eq_true rfl⟩ ⟨Nat.le_of_ble_eq_true rfl, Nat.le_of_ble_eq_true rfl⟩ rfl ?_
    exact (l2 c1)
theorem k_X9_echoOf_12 {x1 x2 x3 s0 : Int32} {hi : Nat → Nat → Int32}
    (l1 : ¬ s0 = (0 : Int32) → Q (some (.int 0)) (hi, sk_hr rr, sk_ks ++ ex))
    (l2 : s0 = (0 : Int32) → sk_Ct Γ m_X9_at [.int x1, .int x2, .int x3] (hi, sk_hr rr, sk_ks ++ ex) (fun r h' => sk_Go Γ (sk_M Γ m_X9_echoOf Q) (0, 0) 25 [some (.ref 20), some (.int x1), some (.int x2), some (.int x3)] (r.toList ++ [.ref 21]) h')) :
    sk_Go Γ (sk_M Γ m_X9_echoOf Q) (0, 0) 12 [some (.ref 20), some (.int x1), some (.int x2), some (.int x3)] [.int s0] (hi, sk_hr rr, sk_ks ++ ex) := by
  refine go_if_ne (tgt := 29) dX9_echoOf_12 (by decide) (fun c1 => ?_) (fun c1 => ?_)
  · refine go_iconst dX9_echoOf_29 (v := 0) (by decide) ?_
    exact go_iret (μ := m_X9_echoOf) dX9_echoOf_30 rfl (Nat.le_of_ble_eq_true rfl) (Nat.le_of_ble_eq_true rfl) (l1 c1)
  · refine go_aload_n dX9_echoOf_15 rfl ?_
    refine go_getR dX9_echoOf_16 fl_X9_7 rfl rfl (show _ = some 21 from rfl) ?_
    refine go_iload_n dX9_echoOf_19 rfl ?_
    refine go_iload_n dX9_echoOf_20 rfl ?_
    refine go_iload_n dX9_echoOf_21 rfl ?_
    refine go_callS (μ := m_X9_at) (n := 25) [.int x1, .int x2, .int x3] dX9_echoOf_22 ok_X9_at ml_X9_43 wx_X9_at rfl (Nat.le_of_ble_eq_true rfl) ⟨Nat.le_of_ble_eq_true rfl, Nat.le_of_ble_eq_true rfl⟩ ⟨Nat.le_of_ble_eq_true rfl, Nat.le_of_ble_eq_true rfl⟩ rfl ?_
    exact (l2 c1)
theorem k_X9_echoOf_25 {x1 x2 x3 s1 : Int32} {hi : Nat → Nat → Int32}
    (o1 : vp_in s1 18368)
    (l1 : Q (some (.int (hi 21 (Int32.toNatClampNeg s1)))) (hi, sk_hr rr, sk_ks ++ ex)) :
    sk_Go Γ (sk_M Γ m_X9_echoOf Q) (0, 0) 25 [some (.ref 20), some (.int x1), some (.int x2), some (.int x3)] [.int s1, .ref 21] (hi, sk_hr rr, sk_ks ++ ex) := by
  refine go_iald dX9_echoOf_25 (show _ = some (1, 18368) from rfl) o1 ?_
  refine go_goto (tgt := 30) dX9_echoOf_26 (by decide) ?_
  exact go_iret (μ := m_X9_echoOf) dX9_echoOf_30 rfl (Nat.le_of_ble_eq_true rfl) (Nat.le_of_ble_eq_true rfl) l1
theorem k_X9_worth_0 {x1 x2 x3 : Int32} {hi : Nat → Nat → Int32}
    (l1 : sk_Ct Γ m_X9_echoOf [.ref 20, .int x1, .int x2, .int x3] (hi, sk_hr rr, sk_ks ++ ex) (fun r h' => sk_Go Γ (sk_M Γ m_X9_worth Q) (0, 0) 7 [some (.ref 20), some (.int x1), some (.int x2), some (.int x3)] (r.toList ++ []) h')) :
    sk_Go Γ (sk_M Γ m_X9_worth Q) (0, 0) 0 [some (.ref 20), some (.int x1), some (.int x2), some (.int x3)] [] (hi, sk_hr rr, sk_ks ++ ex) := by
  refine go_aload_n dX9_worth_0 rfl ?_
  refine go_iload_n dX9_worth_1 rfl ?_
  refine go_iload_n dX9_worth_2 rfl ?_
  refine go_iload_n dX9_worth_3 rfl ?_
  refine go_callV (μ := m_X9_echoOf) (n := 7) (T := TX9) (N := 10) [.int x1, .int x2, .int x3] dX9_worth_4 ok_X9_echoOf ml_X9_51 wx_X9_echoOf wl_X9_echoOf (show _ = some (0, 8) from rfl) rfl rfl (Nat.le_of_ble_eq_true rfl) ⟨Nat.le_of_ble_eq_true rfl, Nat.le_of_ble_eq_true rfl⟩ ⟨Nat.le_of_ble_eq_true rfl, Nat.le_of_ble_eq_true rfl⟩ rfl ?_
  exact l1
theorem k_X9_worth_7 {x1 x2 x3 s0 : Int32} {hi : Nat → Nat → Int32}
    (l1 : sk_Ct Γ m_X9_echoOf [.ref 20, .int x1, .int (x2 + (hi 21 2)), .int x3] (hi, sk_hr rr, sk_ks ++ ex) (fun r h' => sk_Go Γ (sk_M Γ m_X9_worth Q) (0, 0) 21 [some (.ref 20), some (.int x1), some (.int x2), some (.int x3)] (r.toList ++ [.int s0]) h')) :
    sk_Go Γ (sk_M Γ m_X9_worth Q) (0, 0) 7 [some (.ref 20), some (.int x1), some (.int x2), some (.int x3)] [.int s0] (hi, sk_hr rr, sk_ks ++ ex) := by
  refine go_aload_n dX9_worth_7 rfl ?_
  refine go_iload_n dX9_worth_8 rfl ?_
  refine go_iload_n dX9_worth_9 rfl ?_
  refine go_aload_n dX9_worth_10 rfl ?_
  refine go_getR dX9_worth_11 fl_X9_7 rfl rfl (show _ = some 21 from rfl) ?_
  refine go_iconst dX9_worth_14 (v := 2) (by decide) ?_
  refine go_iald dX9_worth_15 (show _ = some (1, 18368) from rfl) (show ¬ (_ ∨ _) by decide) ?_
  show sk_Go Γ (sk_M Γ m_X9_worth Q) (0, 0) _ [some (.ref 20), some (.int x1), some (.int x2), some (.int x3)] [.int (hi 21 2), .int x2, .int x1, .ref 20, .int s0] _
  refine go_iadd dX9_worth_16 ?_
  refine go_iload_n dX9_worth_17 rfl ?_
  refine go_callV (μ := m_X9_echoOf) (n := 21) (T := TX9) (N := 10) [.int x1, .int (x2 + (hi 21 2)), .int x3] dX9_worth_18 ok_X9_echoOf ml_X9_51 wx_X9_echoOf wl_X9_echoOf (show _ = some (0, 8) from rfl) rfl rfl (Nat.le_of_ble_eq_true rfl) ⟨Nat.le_of_ble_eq_true rfl, Nat.le_of_ble_eq_true rfl⟩ ⟨Nat.le_of_ble_eq_true rfl, Nat.le_of_ble_eq_true rfl⟩ rfl ?_
  exact l1
theorem k_X9_worth_21 {x1 x2 x3 s1 s0 : Int32} {hi : Nat → Nat → Int32}
    (l1 : Q (some (.int (s0 + s1))) (hi, sk_hr rr, sk_ks ++ ex)) :
    sk_Go Γ (sk_M Γ m_X9_worth Q) (0, 0) 21 [some (.ref 20), some (.int x1), some (.int x2), some (.int x3)] [.int s1, .int s0] (hi, sk_hr rr, sk_ks ++ ex) := by
  refine go_iadd dX9_worth_21 ?_
  exact go_iret (μ := m_X9_worth) dX9_worth_22 rfl (Nat.le_of_ble_eq_true rfl) (Nat.le_of_ble_eq_true rfl) l1
theorem k_X9_tell_0 {x1 x2 x3 x4 : Int32} {hi : Nat → Nat → Int32}
    (l1 : sk_Ct Γ m_X9_isPlace [.int x1, .int x2, .int x3] (hi, sk_hr rr, sk_ks ++ ex) (fun r h' => sk_Go Γ (sk_M Γ m_X9_tell Q) (0, 0) 6 [some (.ref 20), some (.int x1), some (.int x2), some (.int x3), some (.int x4)] (r.toList ++ []) h')) :
    sk_Go Γ (sk_M Γ m_X9_tell Q) (0, 0) 0 [some (.ref 20), some (.int x1), some (.int x2), some (.int x3), some (.int x4)] [] (hi, sk_hr rr, sk_ks ++ ex) := by
  refine go_iload_n dX9_tell_0 rfl ?_
  refine go_iload_n dX9_tell_1 rfl ?_
  refine go_iload_n dX9_tell_2 rfl ?_
  refine go_callS (μ := m_X9_isPlace) (n := 6) [.int x1, .int x2, .int x3] dX9_tell_3 ok_X9_isPlace ml_X9_40 wx_X9_isPlace rfl (Nat.le_of_ble_eq_true rfl) ⟨Nat.le_of_ble_eq_true rfl, Nat.le_of_ble_eq_true rfl⟩ ⟨Nat.le_of_ble_eq_true rfl, Nat.le_of_ble_eq_true rfl⟩ rfl ?_
  exact l1
theorem k_X9_tell_6 {x1 x2 x3 x4 s0 : Int32} {hi : Nat → Nat → Int32}
    (l1 : ¬ s0 = (0 : Int32) → ¬ x4 = (0 : Int32) → ¬ x4 = (1 : Int32) → ¬ x4 = (2 : Int32) → Q (some (.int (-1))) (hi, sk_hr rr, sk_ks ++ ex))
    (l2 : ¬ s0 = (0 : Int32) → ¬ x4 = (0 : Int32) → ¬ x4 = (1 : Int32) → x4 = (2 : Int32) → sk_Ct Γ m_X9_isBarred [.ref 20, .int x1, .int x2] (hi, sk_hr rr, sk_ks ++ ex) (fun r h' => sk_Go Γ (sk_M Γ m_X9_tell Q) (0, 0) 58 [some (.ref 20), some (.int x1), some (.int x2), some (.int x3), some (.int x4)] (r.toList ++ []) h'))
    (l3 : ¬ s0 = (0 : Int32) → ¬ x4 = (0 : Int32) → x4 = (1 : Int32) → sk_Ct Γ m_X9_worth [.ref 20, .int x1, .int x2, .int x3] (hi, sk_hr rr, sk_ks ++ ex) (fun r h' => sk_Go Γ (sk_M Γ m_X9_tell Q) (0, 0) 43 [some (.ref 20), some (.int x1), some (.int x2), some (.int x3), some (.int x4)] (r.toList ++ []) h'))
    (l4 : ¬ s0 = (0 : Int32) → x4 = (0 : Int32) → sk_Ct Γ m_X9_at [.int x1, .int x2, .int x3] (hi, sk_hr rr, sk_ks ++ ex) (fun r h' => sk_Go Γ (sk_M Γ m_X9_tell Q) (0, 0) 26 [some (.ref 20), some (.int x1), some (.int x2), some (.int x3), some (.int x4)] (r.toList ++ [.ref 21]) h'))
    (l5 : s0 = (0 : Int32) → Q (some (.int (-1))) (hi, sk_hr rr, sk_ks ++ ex)) :
    sk_Go Γ (sk_M Γ m_X9_tell Q) (0, 0) 6 [some (.ref 20), some (.int x1), some (.int x2), some (.int x3), some (.int x4)] [.int s0] (hi, sk_hr rr, sk_ks ++ ex) := by
  refine go_if_ne (tgt := 11) dX9_tell_6 (by decide) (fun c1 => ?_) (fun c1 => ?_)
  · refine go_iload dX9_tell_11 rfl ?_
    refine go_if_ne (tgt := 30) dX9_tell_13 (by decide) (fun c2 => ?_) (fun c2 => ?_)
    · refine go_iload dX9_tell_30 rfl ?_
      refine go_iconst dX9_tell_32 (v := 1) (by decide) ?_
      refine go_icmp_ne (tgt := 46) dX9_tell_33 (by decide) (fun c3 => ?_) (fun c3 => ?_)
      · refine go_iload dX9_tell_46 rfl ?_
        refine go_iconst dX9_tell_48 (v := 2) (by decide) ?_
        refine go_icmp_ne (tgt := 69) dX9_tell_49 (by decide) (fun c4 => ?_) (fun c4 => ?_)
        · refine go_iconst dX9_tell_69 (v := (-1)) (by decide) ?_
          exact go_iret (μ := m_X9_tell) dX9_tell_70 rfl (Nat.le_of_ble_eq_true rfl) (Nat.le_of_ble_eq_true rfl) (l1 c1 c2 c3 c4)
        · refine go_aload_n dX9_tell_52 rfl ?_
          refine go_iload_n dX9_tell_53 rfl ?_
          refine go_iload_n dX9_tell_54 rfl ?_
          refine go_callV (μ := m_X9_isBarred) (n := 58) (T := TX9) (N := 10) [.int x1, .int x2] dX9_tell_55 ok_X9_isBarred ml_X9_47 wx_X9_isBarred wl_X9_isBarred (show _ = some (0, 8) from rfl) rfl rfl (Nat.le_of_ble_eq_true rfl) ⟨Nat.le_of_ble_eq_true rfl, Nat.le_of_ble_eq_true rfl⟩ ⟨Nat.le_of_ble_eq_true rfl, Nat.le_of_ble_eq_true rfl⟩ rfl ?_
          exact (l2 c1 c2 c3 c4)
      · refine go_aload_n dX9_tell_36 rfl ?_
        refine go_iload_n dX9_tell_37 rfl ?_
        refine go_iload_n dX9_tell_38 rfl ?_
        refine go_iload_n dX9_tell_39 rfl ?_
        refine go_callV (μ := m_X9_worth) (n := 43) (T := TX9) (N := 10) [.int x1, .int x2, .int x3] dX9_tell_40 ok_X9_worth ml_X9_54 wx_X9_worth wl_X9_worth (show _ = some (0, 8) from rfl) rfl rfl (Nat.le_of_ble_eq_true rfl) ⟨Nat.le_of_ble_eq_true rfl, Nat.le_of_ble_eq_true rfl⟩ ⟨Nat.le_of_ble_eq_true rfl, Nat.le_of_ble_eq_true rfl⟩ rfl ?_
        exact (l3 c1 c2 c3)
    · refine go_aload_n dX9_tell_16 rfl ?_
      refine go_getR dX9_tell_17 fl_X9_7 rfl rfl (show _ = some 21 from rfl) ?_
      refine go_iload_n dX9_tell_20 rfl ?_
      refine go_iload_n dX9_tell_21 rfl ?_
      refine go_iload_n dX9_tell_22 rfl ?_
      refine go_callS (μ := m_X9_at) (n := 26) [.int x1, .int x2, .int x3] dX9_tell_23 ok_X9_at ml_X9_43 wx_X9_at rfl (Nat.le_of_ble_eq_true rfl) ⟨Nat.le_of_ble_eq_true rfl, Nat.le_of_ble_eq_true rfl⟩ ⟨Nat.le_of_ble_eq_true rfl, Nat.le_of_ble_eq_true rfl⟩ rfl ?_
      exact (l4 c1 c2)
  · refine go_iconst dX9_tell_9 (v := (-1)) (by decide) ?_
    exact go_iret (μ := m_X9_tell) dX9_tell_10 rfl (Nat.le_of_ble_eq_true rfl) (Nat.le_of_ble_eq_true rfl) (l5 c1)
theorem k_X9_tell_26 {x1 x2 x3 x4 s1 : Int32} {hi : Nat → Nat → Int32}
    (o1 : vp_in s1 18368)
    (l1 : Q (some (.int (hi 21 (Int32.toNatClampNeg s1)))) (hi, sk_hr rr, sk_ks ++ ex)) :
    sk_Go Γ (sk_M Γ m_X9_tell Q) (0, 0) 26 [some (.ref 20), some (.int x1), some (.int x2), some (.int x3), some (.int x4)] [.int s1, .ref 21] (hi, sk_hr rr, sk_ks ++ ex) := by
  refine go_iald dX9_tell_26 (show _ = some (1, 18368) from rfl) o1 ?_
  refine go_goto (tgt := 70) dX9_tell_27 (by decide) ?_
  exact go_iret (μ := m_X9_tell) dX9_tell_70 rfl (Nat.le_of_ble_eq_true rfl) (Nat.le_of_ble_eq_true rfl) l1
theorem k_X9_tell_43 {x1 x2 x3 x4 s0 : Int32} {hi : Nat → Nat → Int32}
    (l1 : Q (some (.int s0)) (hi, sk_hr rr, sk_ks ++ ex)) :
    sk_Go Γ (sk_M Γ m_X9_tell Q) (0, 0) 43 [some (.ref 20), some (.int x1), some (.int x2), some (.int x3), some (.int x4)] [.int s0] (hi, sk_hr rr, sk_ks ++ ex) := by
  refine go_goto (tgt := 70) dX9_tell_43 (by decide) ?_
  exact go_iret (μ := m_X9_tell) dX9_tell_70 rfl (Nat.le_of_ble_eq_true rfl) (Nat.le_of_ble_eq_true rfl) l1
theorem k_X9_tell_58 {x1 x2 x3 x4 s0 : Int32} {hi : Nat → Nat → Int32}
    (l1 : s0 = (0 : Int32) → Q (some (.int 0)) (hi, sk_hr rr, sk_ks ++ ex))
    (l2 : ¬ s0 = (0 : Int32) → Q (some (.int 1)) (hi, sk_hr rr, sk_ks ++ ex)) :
    sk_Go Γ (sk_M Γ m_X9_tell Q) (0, 0) 58 [some (.ref 20), some (.int x1), some (.int x2), some (.int x3), some (.int x4)] [.int s0] (hi, sk_hr rr, sk_ks ++ ex) := by
  refine go_if_eq (tgt := 65) dX9_tell_58 (by decide) (fun c1 => ?_) (fun c1 => ?_)
  · refine go_iconst dX9_tell_65 (v := 0) (by decide) ?_
    refine go_goto (tgt := 70) dX9_tell_66 (by decide) ?_
    exact go_iret (μ := m_X9_tell) dX9_tell_70 rfl (Nat.le_of_ble_eq_true rfl) (Nat.le_of_ble_eq_true rfl) (l1 c1)
  · refine go_iconst dX9_tell_61 (v := 1) (by decide) ?_
    refine go_goto (tgt := 70) dX9_tell_62 (by decide) ?_
    exact go_iret (μ := m_X9_tell) dX9_tell_70 rfl (Nat.le_of_ble_eq_true rfl) (Nat.le_of_ble_eq_true rfl) (l2 c1)
theorem k_X9_on_0 {x1 x2 x3 : Int32} {hi : Nat → Nat → Int32}
    (o1 : vp_in ((32 * (x1 + 1)) + x3) 768)
    (l1 : x2 ≤ x3 → Q (some (.int ((hi 23 (Int32.toNatClampNeg ((32 * (x1 + 1)) + x3))) - (x3 - x2)))) (hi, sk_hr rr, sk_ks ++ ex))
    (l2 : ¬ x2 ≤ x3 → Q (some (.int ((hi 23 (Int32.toNatClampNeg ((32 * (x1 + 1)) + x3))) - (x2 - x3)))) (hi, sk_hr rr, sk_ks ++ ex)) :
    sk_Go Γ (sk_M Γ m_X9_on Q) (0, 0) 0 [some (.ref 20), some (.int x1), some (.int x2), some (.int x3)] [] (hi, sk_hr rr, sk_ks ++ ex) := by
  refine go_aload_n dX9_on_0 rfl ?_
  refine go_getR dX9_on_1 fl_X9_17 rfl rfl (show _ = some 23 from rfl) ?_
  refine go_bipush dX9_on_4 (v := 32) (by decide) ?_
  refine go_iload_n dX9_on_6 rfl ?_
  refine go_iconst dX9_on_7 (v := 1) (by decide) ?_
  refine go_iadd dX9_on_8 ?_
  refine go_imul dX9_on_9 ?_
  refine go_iload_n dX9_on_10 rfl ?_
  refine go_iadd dX9_on_11 ?_
  refine go_iald dX9_on_12 (show _ = some (1, 768) from rfl) o1 ?_
  refine go_iload_n dX9_on_13 rfl ?_
  refine go_iload_n dX9_on_14 rfl ?_
  refine go_icmp_le (tgt := 24) dX9_on_15 (by decide) (fun c1 => ?_) (fun c1 => ?_)
  · refine go_iload_n dX9_on_24 rfl ?_
    refine go_iload_n dX9_on_25 rfl ?_
    refine go_isub dX9_on_26 ?_
    refine go_isub dX9_on_27 ?_
    exact go_iret (μ := m_X9_on) dX9_on_28 rfl (Nat.le_of_ble_eq_true rfl) (Nat.le_of_ble_eq_true rfl) (l1 c1)
  · refine go_iload_n dX9_on_18 rfl ?_
    refine go_iload_n dX9_on_19 rfl ?_
    refine go_isub dX9_on_20 ?_
    refine go_goto (tgt := 27) dX9_on_21 (by decide) ?_
    refine go_isub dX9_on_27 ?_
    exact go_iret (μ := m_X9_on) dX9_on_28 rfl (Nat.le_of_ble_eq_true rfl) (Nat.le_of_ble_eq_true rfl) (l2 c1)
theorem k_X9_settles_0 {x1 x2 x3 : Int32} {hi : Nat → Nat → Int32}
    (o1 : vp_in x2 24)
    (l1 : (hi 25 (Int32.toNatClampNeg x2)) = (0 : Int32) → (3 : Int32) ≤ x3 → sk_Go Γ (sk_M Γ m_X9_settles Q) (0, 0) 34 [some (.ref 20), some (.int x1), some (.int x2), some (.int x3), some (.int 0), some (.int x2), some (.int (x3 - 3)), none] [] (hi, sk_hr rr, sk_ks ++ ex))
    (l2 : (hi 25 (Int32.toNatClampNeg x2)) = (0 : Int32) → ¬ (3 : Int32) ≤ x3 → sk_Go Γ (sk_M Γ m_X9_settles Q) (0, 0) 34 [some (.ref 20), some (.int x1), some (.int x2), some (.int x3), some (.int 0), some (.int x2), some (.int 0), none] [] (hi, sk_hr rr, sk_ks ++ ex))
    (l3 : ¬ (hi 25 (Int32.toNatClampNeg x2)) = (0 : Int32) → (3 : Int32) ≤ x3 → sk_Go Γ (sk_M Γ m_X9_settles Q) (0, 0) 34 [some (.ref 20), some (.int x1), some (.int x2), some (.int x3), some (.int (-1000000)), some (.int x2), some (.int (x3 - 3)), none] [] (hi, sk_hr rr, sk_ks ++ ex))
    (l4 : ¬ (hi 25 (Int32.toNatClampNeg x2)) = (0 : Int32) → ¬ (3 : Int32) ≤ x3 → sk_Go Γ (sk_M Γ m_X9_settles Q) (0, 0) 34 [some (.ref 20), some (.int x1), some (.int x2), some (.int x3), some (.int (-1000000)), some (.int x2), some (.int 0), none] [] (hi, sk_hr rr, sk_ks ++ ex)) :
    sk_Go Γ (sk_M Γ m_X9_settles Q) (0, 0) 0 [some (.ref 20), some (.int x1), some (.int x2), some (.int x3), none, none, none, none] [] (hi, sk_hr rr, sk_ks ++ ex) := by
  refine go_aload_n dX9_settles_0 rfl ?_
  refine go_getR dX9_settles_1 fl_X9_23 rfl rfl (show _ = some 25 from rfl) ?_
  refine go_iload_n dX9_settles_4 rfl ?_
  refine go_zald dX9_settles_5 (show _ = some (2, 24) from rfl) o1 ?_
  refine go_if_eq (tgt := 14) dX9_settles_6 (by decide) (fun c1 => ?_) (fun c1 => ?_)
  · refine go_iconst dX9_settles_14 (v := 0) (by decide) ?_
    refine go_istore dX9_settles_15 (Nat.le_of_ble_eq_true rfl) ?_
    show sk_Go Γ (sk_M Γ m_X9_settles Q) (0, 0) _ [some (.ref 20), some (.int x1), some (.int x2), some (.int x3), some (.int 0), none, none, none] [] _
    refine go_iload_n dX9_settles_17 rfl ?_
    refine go_istore dX9_settles_18 (Nat.le_of_ble_eq_true rfl) ?_
    show sk_Go Γ (sk_M Γ m_X9_settles Q) (0, 0) _ [some (.ref 20), some (.int x1), some (.int x2), some (.int x3), some (.int 0), some (.int x2), none, none] [] _
    refine go_iload_n dX9_settles_20 rfl ?_
    refine go_iconst dX9_settles_21 (v := 3) (by decide) ?_
    refine go_icmp_ge (tgt := 29) dX9_settles_22 (by decide) (fun c2 => ?_) (fun c2 => ?_)
    · refine go_iload_n dX9_settles_29 rfl ?_
      refine go_iconst dX9_settles_30 (v := 3) (by decide) ?_
      refine go_isub dX9_settles_31 ?_
      refine go_istore dX9_settles_32 (Nat.le_of_ble_eq_true rfl) ?_
      show sk_Go Γ (sk_M Γ m_X9_settles Q) (0, 0) _ [some (.ref 20), some (.int x1), some (.int x2), some (.int x3), some (.int 0), some (.int x2), some (.int (x3 - 3)), none] [] _
      exact (l1 c1 c2)
    · refine go_iconst dX9_settles_25 (v := 0) (by decide) ?_
      refine go_goto (tgt := 32) dX9_settles_26 (by decide) ?_
      refine go_istore dX9_settles_32 (Nat.le_of_ble_eq_true rfl) ?_
      show sk_Go Γ (sk_M Γ m_X9_settles Q) (0, 0) _ [some (.ref 20), some (.int x1), some (.int x2), some (.int x3), some (.int 0), some (.int x2), some (.int 0), none] [] _
      exact (l2 c1 c2)
  · refine go_ldc dX9_settles_9 kc_X9_57 ?_
    refine go_goto (tgt := 15) dX9_settles_11 (by decide) ?_
    refine go_istore dX9_settles_15 (Nat.le_of_ble_eq_true rfl) ?_
    show sk_Go Γ (sk_M Γ m_X9_settles Q) (0, 0) _ [some (.ref 20), some (.int x1), some (.int x2), some (.int x3), some (.int (-1000000)), none, none, none] [] _
    refine go_iload_n dX9_settles_17 rfl ?_
    refine go_istore dX9_settles_18 (Nat.le_of_ble_eq_true rfl) ?_
    show sk_Go Γ (sk_M Γ m_X9_settles Q) (0, 0) _ [some (.ref 20), some (.int x1), some (.int x2), some (.int x3), some (.int (-1000000)), some (.int x2), none, none] [] _
    refine go_iload_n dX9_settles_20 rfl ?_
    refine go_iconst dX9_settles_21 (v := 3) (by decide) ?_
    refine go_icmp_ge (tgt := 29) dX9_settles_22 (by decide) (fun c2 => ?_) (fun c2 => ?_)
    · refine go_iload_n dX9_settles_29 rfl ?_
      refine go_iconst dX9_settles_30 (v := 3) (by decide) ?_
      refine go_isub dX9_settles_31 ?_
      refine go_istore dX9_settles_32 (Nat.le_of_ble_eq_true rfl) ?_
      show sk_Go Γ (sk_M Γ m_X9_settles Q) (0, 0) _ [some (.ref 20), some (.int x1), some (.int x2), some (.int x3), some (.int (-1000000)), some (.int x2), some (.int (x3 - 3)), none] [] _
      exact (l3 c1 c2)
    · refine go_iconst dX9_settles_25 (v := 0) (by decide) ?_
      refine go_goto (tgt := 32) dX9_settles_26 (by decide) ?_
      refine go_istore dX9_settles_32 (Nat.le_of_ble_eq_true rfl) ?_
      show sk_Go Γ (sk_M Γ m_X9_settles Q) (0, 0) _ [some (.ref 20), some (.int x1), some (.int x2), some (.int x3), some (.int (-1000000)), some (.int x2), some (.int 0), none] [] _
      exact (l4 c1 c2)
theorem k_X9_settles_34 {x1 x2 x3 x4 x5 x6 : Int32} {hi : Nat → Nat → Int32}
    (l1 : (24 : Int32) ≤ (x2 + 1) → (-500000 : Int32) ≤ x4 → sk_Ct Γ m_X9_worth [.ref 20, .int x1, .int x2, .int x3] (hi, sk_hr rr, sk_ks ++ ex) (fun r h' => sk_Go Γ (sk_M Γ m_X9_settles Q) (0, 0) 157 [some (.ref 20), some (.int x1), some (.int x2), some (.int x3), some (.int x4), some (.int x5), some (.int x6), none] (r.toList ++ [.int x4, .int ((32 * x2) + x3), .ref 23]) h'))
    (o1 : (24 : Int32) ≤ (x2 + 1) → ¬ (-500000 : Int32) ≤ x4 → vp_in ((32 * x2) + x3) 768)
    (l2 : (24 : Int32) ≤ (x2 + 1) → ¬ (-500000 : Int32) ≤ x4 → Q none ((sk_wi (sk_wi hi 23 (Int32.toNatClampNeg ((32 * x2) + x3)) (-1000000)) 24 (Int32.toNatClampNeg ((32 * x2) + x3)) x5), sk_hr rr, sk_ks ++ ex))
    (l3 : ¬ (24 : Int32) ≤ (x2 + 1) → (x3 + 3) < x6 → (-500000 : Int32) ≤ x4 → sk_Ct Γ m_X9_worth [.ref 20, .int x1, .int x2, .int x3] (hi, sk_hr rr, sk_ks ++ ex) (fun r h' => sk_Go Γ (sk_M Γ m_X9_settles Q) (0, 0) 157 [some (.ref 20), some (.int x1), some (.int x2), some (.int x3), some (.int x4), some (.int x5), some (.int x6), none] (r.toList ++ [.int x4, .int ((32 * x2) + x3), .ref 23]) h'))
    (o2 : ¬ (24 : Int32) ≤ (x2 + 1) → (x3 + 3) < x6 → ¬ (-500000 : Int32) ≤ x4 → vp_in ((32 * x2) + x3) 768)
    (l4 : ¬ (24 : Int32) ≤ (x2 + 1) → (x3 + 3) < x6 → ¬ (-500000 : Int32) ≤ x4 → Q none ((sk_wi (sk_wi hi 23 (Int32.toNatClampNeg ((32 * x2) + x3)) (-1000000)) 24 (Int32.toNatClampNeg ((32 * x2) + x3)) x5), sk_hr rr, sk_ks ++ ex))
    (l5 : ¬ (24 : Int32) ≤ (x2 + 1) → ¬ (x3 + 3) < x6 → (32 : Int32) ≤ x6 → (-500000 : Int32) ≤ x4 → sk_Ct Γ m_X9_worth [.ref 20, .int x1, .int x2, .int x3] (hi, sk_hr rr, sk_ks ++ ex) (fun r h' => sk_Go Γ (sk_M Γ m_X9_settles Q) (0, 0) 157 [some (.ref 20), some (.int x1), some (.int x2), some (.int x3), some (.int x4), some (.int x5), some (.int x6), none] (r.toList ++ [.int x4, .int ((32 * x2) + x3), .ref 23]) h'))
    (o3 : ¬ (24 : Int32) ≤ (x2 + 1) → ¬ (x3 + 3) < x6 → (32 : Int32) ≤ x6 → ¬ (-500000 : Int32) ≤ x4 → vp_in ((32 * x2) + x3) 768)
    (l6 : ¬ (24 : Int32) ≤ (x2 + 1) → ¬ (x3 + 3) < x6 → (32 : Int32) ≤ x6 → ¬ (-500000 : Int32) ≤ x4 → Q none ((sk_wi (sk_wi hi 23 (Int32.toNatClampNeg ((32 * x2) + x3)) (-1000000)) 24 (Int32.toNatClampNeg ((32 * x2) + x3)) x5), sk_hr rr, sk_ks ++ ex))
    (l7 : ¬ (24 : Int32) ≤ (x2 + 1) → ¬ (x3 + 3) < x6 → ¬ (32 : Int32) ≤ x6 → sk_Ct Γ m_X9_on [.ref 20, .int x2, .int x3, .int x6] (hi, sk_hr rr, sk_ks ++ ex) (fun r h' => sk_Go Γ (sk_M Γ m_X9_settles Q) (0, 0) 65 [some (.ref 20), some (.int x1), some (.int x2), some (.int x3), some (.int x4), some (.int x5), some (.int x6), none] (r.toList ++ []) h')) :
    sk_Go Γ (sk_M Γ m_X9_settles Q) (0, 0) 34 [some (.ref 20), some (.int x1), some (.int x2), some (.int x3), some (.int x4), some (.int x5), some (.int x6), none] [] (hi, sk_hr rr, sk_ks ++ ex) := by
  refine go_iload_n dX9_settles_34 rfl ?_
  refine go_iconst dX9_settles_35 (v := 1) (by decide) ?_
  refine go_iadd dX9_settles_36 ?_
  refine go_bipush dX9_settles_37 (v := 24) (by decide) ?_
  refine go_icmp_ge (tgt := 126) dX9_settles_39 (by decide) (fun c1 => ?_) (fun c1 => ?_)
  · refine go_aload_n dX9_settles_126 rfl ?_
    refine go_getR dX9_settles_127 fl_X9_17 rfl rfl (show _ = some 23 from rfl) ?_
    refine go_bipush dX9_settles_130 (v := 32) (by decide) ?_
    refine go_iload_n dX9_settles_132 rfl ?_
    refine go_imul dX9_settles_133 ?_
    refine go_iload_n dX9_settles_134 rfl ?_
    refine go_iadd dX9_settles_135 ?_
    refine go_iload dX9_settles_136 rfl ?_
    refine go_ldc dX9_settles_138 kc_X9_61 ?_
    refine go_icmp_ge (tgt := 148) dX9_settles_140 (by decide) (fun c2 => ?_) (fun c2 => ?_)
    · refine go_iload dX9_settles_148 rfl ?_
      refine go_aload_n dX9_settles_150 rfl ?_
      refine go_iload_n dX9_settles_151 rfl ?_
      refine go_iload_n dX9_settles_152 rfl ?_
      refine go_iload_n dX9_settles_153 rfl ?_
      refine go_callV (μ := m_X9_worth) (n := 157) (T := TX9) (N := 10) [.int x1, .int x2, .int x3] dX9_settles_154 ok_X9_worth ml_X9_54 wx_X9_worth wl_X9_worth (show _ = some (0, 8) from rfl) rfl rfl (Nat.le_of_ble_eq_true rfl) ⟨Nat.le_of_ble_eq_true rfl, Nat.le_of_ble_eq_true rfl⟩ ⟨Nat.le_of_ble_eq_true rfl, Nat.le_of_ble_eq_true rfl⟩ rfl ?_
      exact (l1 c1 c2)
    · refine go_ldc dX9_settles_143 kc_X9_57 ?_
      refine go_goto (tgt := 160) dX9_settles_145 (by decide) ?_
      refine go_iast dX9_settles_160 (show _ = some (1, 768) from rfl) (o1 c1 c2) ?_
      refine go_aload_n dX9_settles_161 rfl ?_
      refine go_getR dX9_settles_162 fl_X9_20 rfl rfl (show _ = some 24 from rfl) ?_
      refine go_bipush dX9_settles_165 (v := 32) (by decide) ?_
      refine go_iload_n dX9_settles_167 rfl ?_
      refine go_imul dX9_settles_168 ?_
      refine go_iload_n dX9_settles_169 rfl ?_
      refine go_iadd dX9_settles_170 ?_
      refine go_iload dX9_settles_171 rfl ?_
      refine go_iast dX9_settles_173 (show _ = some (1, 768) from rfl) (o1 c1 c2) ?_
      exact go_vret (μ := m_X9_settles) dX9_settles_174 rfl (Nat.le_of_ble_eq_true rfl) (Nat.le_of_ble_eq_true rfl) (l2 c1 c2)
  · refine go_iload dX9_settles_42 rfl ?_
    refine go_iload_n dX9_settles_44 rfl ?_
    refine go_iconst dX9_settles_45 (v := 3) (by decide) ?_
    refine go_iadd dX9_settles_46 ?_
    refine go_icmp_gt (tgt := 126) dX9_settles_47 (by decide) (fun c2 => ?_) (fun c2 => ?_)
    · refine go_aload_n dX9_settles_126 rfl ?_
      refine go_getR dX9_settles_127 fl_X9_17 rfl rfl (show _ = some 23 from rfl) ?_
      refine go_bipush dX9_settles_130 (v := 32) (by decide) ?_
      refine go_iload_n dX9_settles_132 rfl ?_
      refine go_imul dX9_settles_133 ?_
      refine go_iload_n dX9_settles_134 rfl ?_
      refine go_iadd dX9_settles_135 ?_
      refine go_iload dX9_settles_136 rfl ?_
      refine go_ldc dX9_settles_138 kc_X9_61 ?_
      refine go_icmp_ge (tgt := 148) dX9_settles_140 (by decide) (fun c3 => ?_) (fun c3 => ?_)
      · refine go_iload dX9_settles_148 rfl ?_
        refine go_aload_n dX9_settles_150 rfl ?_
        refine go_iload_n dX9_settles_151 rfl ?_
        refine go_iload_n dX9_settles_152 rfl ?_
        refine go_iload_n dX9_settles_153 rfl ?_
        refine go_callV (μ := m_X9_worth) (n := 157) (T := TX9) (N := 10) [.int x1, .int x2, .int x3] dX9_settles_154 ok_X9_worth ml_X9_54 wx_X9_worth wl_X9_worth (show _ = some (0, 8) from rfl) rfl rfl (Nat.le_of_ble_eq_true rfl) ⟨Nat.le_of_ble_eq_true rfl, Nat.le_of_ble_eq_true rfl⟩ ⟨Nat.le_of_ble_eq_true rfl, Nat.le_of_ble_eq_true rfl⟩ rfl ?_
        exact (l3 c1 c2 c3)
      · refine go_ldc dX9_settles_143 kc_X9_57 ?_
        refine go_goto (tgt := 160) dX9_settles_145 (by decide) ?_
        refine go_iast dX9_settles_160 (show _ = some (1, 768) from rfl) (o2 c1 c2 c3) ?_
        refine go_aload_n dX9_settles_161 rfl ?_
        refine go_getR dX9_settles_162 fl_X9_20 rfl rfl (show _ = some 24 from rfl) ?_
        refine go_bipush dX9_settles_165 (v := 32) (by decide) ?_
        refine go_iload_n dX9_settles_167 rfl ?_
        refine go_imul dX9_settles_168 ?_
        refine go_iload_n dX9_settles_169 rfl ?_
        refine go_iadd dX9_settles_170 ?_
        refine go_iload dX9_settles_171 rfl ?_
        refine go_iast dX9_settles_173 (show _ = some (1, 768) from rfl) (o2 c1 c2 c3) ?_
        exact go_vret (μ := m_X9_settles) dX9_settles_174 rfl (Nat.le_of_ble_eq_true rfl) (Nat.le_of_ble_eq_true rfl) (l4 c1 c2 c3)
    · refine go_iload dX9_settles_50 rfl ?_
      refine go_bipush dX9_settles_52 (v := 32) (by decide) ?_
      refine go_icmp_ge (tgt := 126) dX9_settles_54 (by decide) (fun c3 => ?_) (fun c3 => ?_)
      · refine go_aload_n dX9_settles_126 rfl ?_
        refine go_getR dX9_settles_127 fl_X9_17 rfl rfl (show _ = some 23 from rfl) ?_
        refine go_bipush dX9_settles_130 (v := 32) (by decide) ?_
        refine go_iload_n dX9_settles_132 rfl ?_
        refine go_imul dX9_settles_133 ?_
        refine go_iload_n dX9_settles_134 rfl ?_
        refine go_iadd dX9_settles_135 ?_
        refine go_iload dX9_settles_136 rfl ?_
        refine go_ldc dX9_settles_138 kc_X9_61 ?_
        refine go_icmp_ge (tgt := 148) dX9_settles_140 (by decide) (fun c4 => ?_) (fun c4 => ?_)
        · refine go_iload dX9_settles_148 rfl ?_
          refine go_aload_n dX9_settles_150 rfl ?_
          refine go_iload_n dX9_settles_151 rfl ?_
          refine go_iload_n dX9_settles_152 rfl ?_
          refine go_iload_n dX9_settles_153 rfl ?_
          refine go_callV (μ := m_X9_worth) (n := 157) (T := TX9) (N := 10) [.int x1, .int x2, .int x3] dX9_settles_154 ok_X9_worth ml_X9_54 wx_X9_worth wl_X9_worth (show _ = some (0, 8) from rfl) rfl rfl (Nat.le_of_ble_eq_true rfl) ⟨Nat.le_of_ble_eq_true rfl, Nat.le_of_ble_eq_true rfl⟩ ⟨Nat.le_of_ble_eq_true rfl, Nat.le_of_ble_eq_true rfl⟩ rfl ?_
          exact (l5 c1 c2 c3 c4)
        · refine go_ldc dX9_settles_143 kc_X9_57 ?_
          refine go_goto (tgt := 160) dX9_settles_145 (by decide) ?_
          refine go_iast dX9_settles_160 (show _ = some (1, 768) from rfl) (o3 c1 c2 c3 c4) ?_
          refine go_aload_n dX9_settles_161 rfl ?_
          refine go_getR dX9_settles_162 fl_X9_20 rfl rfl (show _ = some 24 from rfl) ?_
          refine go_bipush dX9_settles_165 (v := 32) (by decide) ?_
          refine go_iload_n dX9_settles_167 rfl ?_
          refine go_imul dX9_settles_168 ?_
          refine go_iload_n dX9_settles_169 rfl ?_
          refine go_iadd dX9_settles_170 ?_
          refine go_iload dX9_settles_171 rfl ?_
          refine go_iast dX9_settles_173 (show _ = some (1, 768) from rfl) (o3 c1 c2 c3 c4) ?_
          exact go_vret (μ := m_X9_settles) dX9_settles_174 rfl (Nat.le_of_ble_eq_true rfl) (Nat.le_of_ble_eq_true rfl) (l6 c1 c2 c3 c4)
      · refine go_aload_n dX9_settles_57 rfl ?_
        refine go_iload_n dX9_settles_58 rfl ?_
        refine go_iload_n dX9_settles_59 rfl ?_
        refine go_iload dX9_settles_60 rfl ?_
        refine go_callV (μ := m_X9_on) (n := 65) (T := TX9) (N := 10) [.int x2, .int x3, .int x6] dX9_settles_62 ok_X9_on ml_X9_58 wx_X9_on wl_X9_on (show _ = some (0, 8) from rfl) rfl rfl (Nat.le_of_ble_eq_true rfl) ⟨Nat.le_of_ble_eq_true rfl, Nat.le_of_ble_eq_true rfl⟩ ⟨Nat.le_of_ble_eq_true rfl, Nat.le_of_ble_eq_true rfl⟩ rfl ?_
        exact (l7 c1 c2 c3)
theorem k_X9_settles_65 {x1 x2 x3 x4 x5 x6 s0 : Int32} {hi : Nat → Nat → Int32}
    (o1 : x4 < s0 → vp_in ((32 * (x2 + 1)) + x6) 768)
    (l1 : x4 < s0 → sk_Go Γ (sk_M Γ m_X9_settles Q) (0, 0) 34 [some (.ref 20), some (.int x1), some (.int x2), some (.int x3), some (.int s0), some (.int (hi 24 (Int32.toNatClampNeg ((32 * (x2 + 1)) + x6)))), some (.int (x6 + 1)), none] [] (hi, sk_hr rr, sk_ks ++ ex))
    (l2 : ¬ x4 < s0 → ¬ s0 = x4 → sk_Go Γ (sk_M Γ m_X9_settles Q) (0, 0) 34 [some (.ref 20), some (.int x1), some (.int x2), some (.int x3), some (.int x4), some (.int x5), some (.int (x6 + 1)), none] [] (hi, sk_hr rr, sk_ks ++ ex))
    (o2 : ¬ x4 < s0 → s0 = x4 → vp_in ((32 * (x2 + 1)) + x6) 768)
    (l3 : ¬ x4 < s0 → s0 = x4 → x5 ≤ (hi 24 (Int32.toNatClampNeg ((32 * (x2 + 1)) + x6))) → sk_Go Γ (sk_M Γ m_X9_settles Q) (0, 0) 34 [some (.ref 20), some (.int x1), some (.int x2), some (.int x3), some (.int x4), some (.int x5), some (.int (x6 + 1)), none] [] (hi, sk_hr rr, sk_ks ++ ex))
    (l4 : ¬ x4 < s0 → s0 = x4 → ¬ x5 ≤ (hi 24 (Int32.toNatClampNeg ((32 * (x2 + 1)) + x6))) → sk_Go Γ (sk_M Γ m_X9_settles Q) (0, 0) 34 [some (.ref 20), some (.int x1), some (.int x2), some (.int x3), some (.int s0), some (.int (hi 24 (Int32.toNatClampNeg ((32 * (x2 + 1)) + x6)))), some (.int (x6 + 1)), none] [] (hi, sk_hr rr, sk_ks ++ ex)) :
    sk_Go Γ (sk_M Γ m_X9_settles Q) (0, 0) 65 [some (.ref 20), some (.int x1), some (.int x2), some (.int x3), some (.int x4), some (.int x5), some (.int x6), none] [.int s0] (hi, sk_hr rr, sk_ks ++ ex) := by
  refine go_istore dX9_settles_65 (Nat.le_of_ble_eq_true rfl) ?_
  show sk_Go Γ (sk_M Γ m_X9_settles Q) (0, 0) _ [some (.ref 20), some (.int x1), some (.int x2), some (.int x3), some (.int x4), some (.int x5), some (.int x6), some (.int s0)] [] _
  refine go_iload dX9_settles_67 rfl ?_
  refine go_iload dX9_settles_69 rfl ?_
  refine go_icmp_gt (tgt := 100) dX9_settles_71 (by decide) (fun c1 => ?_) (fun c1 => ?_)
  · refine go_iload dX9_settles_100 rfl ?_
    refine go_istore dX9_settles_102 (Nat.le_of_ble_eq_true rfl) ?_
    show sk_Go Γ (sk_M Γ m_X9_settles Q) (0, 0) _ [some (.ref 20), some (.int x1), some (.int x2), some (.int x3), some (.int s0), some (.int x5), some (.int x6), some (.int s0)] [] _
    refine go_aload_n dX9_settles_104 rfl ?_
    refine go_getR dX9_settles_105 fl_X9_20 rfl rfl (show _ = some 24 from rfl) ?_
    refine go_bipush dX9_settles_108 (v := 32) (by decide) ?_
    refine go_iload_n dX9_settles_110 rfl ?_
    refine go_iconst dX9_settles_111 (v := 1) (by decide) ?_
    refine go_iadd dX9_settles_112 ?_
    refine go_imul dX9_settles_113 ?_
    refine go_iload dX9_settles_114 rfl ?_
    refine go_iadd dX9_settles_116 ?_
    refine go_iald dX9_settles_117 (show _ = some (1, 768) from rfl) (o1 c1) ?_
    refine go_istore dX9_settles_118 (Nat.le_of_ble_eq_true rfl) ?_
    show sk_Go Γ (sk_M Γ m_X9_settles Q) (0, 0) _ [some (.ref 20), some (.int x1), some (.int x2), some (.int x3), some (.int s0), some (.int (hi 24 (Int32.toNatClampNeg ((32 * (x2 + 1)) + x6)))), some (.int x6), some (.int s0)] [] _
    refine go_iinc (v := x6 + 1) dX9_settles_120 rfl rfl (Nat.le_of_ble_eq_true rfl) ?_
    show sk_Go Γ (sk_M Γ m_X9_settles Q) (0, 0) _ [some (.ref 20), some (.int x1), some (.int x2), some (.int x3), some (.int s0), some (.int (hi 24 (Int32.toNatClampNeg ((32 * (x2 + 1)) + x6)))), some (.int (x6 + 1)), some (.int s0)] [] _
    refine go_goto (tgt := 34) dX9_settles_123 (by decide) ?_
    exact (go_wk (l1 c1) (show sk_le _ _ from (And.intro rfl (And.intro rfl (And.intro rfl (And.intro rfl (And.intro rfl (And.intro rfl (And.intro rfl trivial)))))))))
  · refine go_iload dX9_settles_74 rfl ?_
    refine go_iload dX9_settles_76 rfl ?_
    refine go_icmp_ne (tgt := 120) dX9_settles_78 (by decide) (fun c2 => ?_) (fun c2 => ?_)
    · refine go_iinc (v := x6 + 1) dX9_settles_120 rfl rfl (Nat.le_of_ble_eq_true rfl) ?_
      show sk_Go Γ (sk_M Γ m_X9_settles Q) (0, 0) _ [some (.ref 20), some (.int x1), some (.int x2), some (.int x3), some (.int x4), some (.int x5), some (.int (x6 + 1)), some (.int s0)] [] _
      refine go_goto (tgt := 34) dX9_settles_123 (by decide) ?_
      exact (go_wk (l2 c1 c2) (show sk_le _ _ from (And.intro rfl (And.intro rfl (And.intro rfl (And.intro rfl (And.intro rfl (And.intro rfl (And.intro rfl trivial)))))))))
    · refine go_aload_n dX9_settles_81 rfl ?_
      refine go_getR dX9_settles_82 fl_X9_20 rfl rfl (show _ = some 24 from rfl) ?_
      refine go_bipush dX9_settles_85 (v := 32) (by decide) ?_
      refine go_iload_n dX9_settles_87 rfl ?_
      refine go_iconst dX9_settles_88 (v := 1) (by decide) ?_
      refine go_iadd dX9_settles_89 ?_
      refine go_imul dX9_settles_90 ?_
      refine go_iload dX9_settles_91 rfl ?_
      refine go_iadd dX9_settles_93 ?_
      refine go_iald dX9_settles_94 (show _ = some (1, 768) from rfl) (o2 c1 c2) ?_
      refine go_iload dX9_settles_95 rfl ?_
      refine go_icmp_ge (tgt := 120) dX9_settles_97 (by decide) (fun c3 => ?_) (fun c3 => ?_)
      · refine go_iinc (v := x6 + 1) dX9_settles_120 rfl rfl (Nat.le_of_ble_eq_true rfl) ?_
        show sk_Go Γ (sk_M Γ m_X9_settles Q) (0, 0) _ [some (.ref 20), some (.int x1), some (.int x2), some (.int x3), some (.int x4), some (.int x5), some (.int (x6 + 1)), some (.int s0)] [] _
        refine go_goto (tgt := 34) dX9_settles_123 (by decide) ?_
        exact (go_wk (l3 c1 c2 c3) (show sk_le _ _ from (And.intro rfl (And.intro rfl (And.intro rfl (And.intro rfl (And.intro rfl (And.intro rfl (And.intro rfl trivial)))))))))
      · refine go_iload dX9_settles_100 rfl ?_
        refine go_istore dX9_settles_102 (Nat.le_of_ble_eq_true rfl) ?_
        show sk_Go Γ (sk_M Γ m_X9_settles Q) (0, 0) _ [some (.ref 20), some (.int x1), some (.int x2), some (.int x3), some (.int s0), some (.int x5), some (.int x6), some (.int s0)] [] _
        refine go_aload_n dX9_settles_104 rfl ?_
        refine go_getR dX9_settles_105 fl_X9_20 rfl rfl (show _ = some 24 from rfl) ?_
        refine go_bipush dX9_settles_108 (v := 32) (by decide) ?_
        refine go_iload_n dX9_settles_110 rfl ?_
        refine go_iconst dX9_settles_111 (v := 1) (by decide) ?_
        refine go_iadd dX9_settles_112 ?_
        refine go_imul dX9_settles_113 ?_
        refine go_iload dX9_settles_114 rfl ?_
        refine go_iadd dX9_settles_116 ?_
        refine go_iald dX9_settles_117 (show _ = some (1, 768) from rfl) (o2 c1 c2) ?_
        refine go_istore dX9_settles_118 (Nat.le_of_ble_eq_true rfl) ?_
        show sk_Go Γ (sk_M Γ m_X9_settles Q) (0, 0) _ [some (.ref 20), some (.int x1), some (.int x2), some (.int x3), some (.int s0), some (.int (hi 24 (Int32.toNatClampNeg ((32 * (x2 + 1)) + x6)))), some (.int x6), some (.int s0)] [] _
        refine go_iinc (v := x6 + 1) dX9_settles_120 rfl rfl (Nat.le_of_ble_eq_true rfl) ?_
        show sk_Go Γ (sk_M Γ m_X9_settles Q) (0, 0) _ [some (.ref 20), some (.int x1), some (.int x2), some (.int x3), some (.int s0), some (.int (hi 24 (Int32.toNatClampNeg ((32 * (x2 + 1)) + x6)))), some (.int (x6 + 1)), some (.int s0)] [] _
        refine go_goto (tgt := 34) dX9_settles_123 (by decide) ?_
        exact (go_wk (l4 c1 c2 c3) (show sk_le _ _ from (And.intro rfl (And.intro rfl (And.intro rfl (And.intro rfl (And.intro rfl (And.intro rfl (And.intro rfl trivial)))))))))
theorem k_X9_settles_157 {x1 x2 x3 x4 x5 x6 s3 s2 s1 : Int32} {hi : Nat → Nat → Int32}
    (o1 : vp_in s1 768)
    (o2 : vp_in ((32 * x2) + x3) 768)
    (l1 : Q none ((sk_wi (sk_wi hi 23 (Int32.toNatClampNeg s1) ((s2 + s3) - 1)) 24 (Int32.toNatClampNeg ((32 * x2) + x3)) x5), sk_hr rr, sk_ks ++ ex)) :
    sk_Go Γ (sk_M Γ m_X9_settles Q) (0, 0) 157 [some (.ref 20), some (.int x1), some (.int x2), some (.int x3), some (.int x4), some (.int x5), some (.int x6), none] [.int s3, .int s2, .int s1, .ref 23] (hi, sk_hr rr, sk_ks ++ ex) := by
  refine go_iadd dX9_settles_157 ?_
  refine go_iconst dX9_settles_158 (v := 1) (by decide) ?_
  refine go_isub dX9_settles_159 ?_
  refine go_iast dX9_settles_160 (show _ = some (1, 768) from rfl) o1 ?_
  refine go_aload_n dX9_settles_161 rfl ?_
  refine go_getR dX9_settles_162 fl_X9_20 rfl rfl (show _ = some 24 from rfl) ?_
  refine go_bipush dX9_settles_165 (v := 32) (by decide) ?_
  refine go_iload_n dX9_settles_167 rfl ?_
  refine go_imul dX9_settles_168 ?_
  refine go_iload_n dX9_settles_169 rfl ?_
  refine go_iadd dX9_settles_170 ?_
  refine go_iload dX9_settles_171 rfl ?_
  refine go_iast dX9_settles_173 (show _ = some (1, 768) from rfl) o2 ?_
  exact go_vret (μ := m_X9_settles) dX9_settles_174 rfl (Nat.le_of_ble_eq_true rfl) (Nat.le_of_ble_eq_true rfl) l1
theorem k_X9_next_0 {x1 x2 x3 : Int32} {hi : Nat → Nat → Int32}
    (o1 : vp_in ((32 * x2) + x3) 768)
    (l1 : sk_Ct Γ m_X9_worth [.ref 20, .int x1, .int x2, .int x3] (hi, sk_hr rr, sk_ks ++ ex) (fun r h' => sk_Go Γ (sk_M Γ m_X9_next Q) (0, 0) 18 [some (.ref 20), some (.int x1), some (.int x2), some (.int x3), none, none] (r.toList ++ [.int (hi 23 (Int32.toNatClampNeg ((32 * x2) + x3)))]) h')) :
    sk_Go Γ (sk_M Γ m_X9_next Q) (0, 0) 0 [some (.ref 20), some (.int x1), some (.int x2), some (.int x3), none, none] [] (hi, sk_hr rr, sk_ks ++ ex) := by
  refine go_aload_n dX9_next_0 rfl ?_
  refine go_getR dX9_next_1 fl_X9_17 rfl rfl (show _ = some 23 from rfl) ?_
  refine go_bipush dX9_next_4 (v := 32) (by decide) ?_
  refine go_iload_n dX9_next_6 rfl ?_
  refine go_imul dX9_next_7 ?_
  refine go_iload_n dX9_next_8 rfl ?_
  refine go_iadd dX9_next_9 ?_
  refine go_iald dX9_next_10 (show _ = some (1, 768) from rfl) o1 ?_
  refine go_aload_n dX9_next_11 rfl ?_
  refine go_iload_n dX9_next_12 rfl ?_
  refine go_iload_n dX9_next_13 rfl ?_
  refine go_iload_n dX9_next_14 rfl ?_
  refine go_callV (μ := m_X9_worth) (n := 18) (T := TX9) (N := 10) [.int x1, .int x2, .int x3] dX9_next_15 ok_X9_worth ml_X9_54 wx_X9_worth wl_X9_worth (show _ = some (0, 8) from rfl) rfl rfl (Nat.le_of_ble_eq_true rfl) ⟨Nat.le_of_ble_eq_true rfl, Nat.le_of_ble_eq_true rfl⟩ ⟨Nat.le_of_ble_eq_true rfl, Nat.le_of_ble_eq_true rfl⟩ rfl ?_
  exact l1
theorem k_X9_next_18 {x1 x2 x3 s1 s0 : Int32} {hi : Nat → Nat → Int32}
    (l1 : (3 : Int32) ≤ x3 → sk_Go Γ (sk_M Γ m_X9_next Q) (0, 0) 37 [some (.ref 20), some (.int x1), some (.int x2), some (.int x3), some (.int ((s0 - s1) + 1)), some (.int (x3 - 3))] [] (hi, sk_hr rr, sk_ks ++ ex))
    (l2 : ¬ (3 : Int32) ≤ x3 → sk_Go Γ (sk_M Γ m_X9_next Q) (0, 0) 37 [some (.ref 20), some (.int x1), some (.int x2), some (.int x3), some (.int ((s0 - s1) + 1)), some (.int 0)] [] (hi, sk_hr rr, sk_ks ++ ex)) :
    sk_Go Γ (sk_M Γ m_X9_next Q) (0, 0) 18 [some (.ref 20), some (.int x1), some (.int x2), some (.int x3), none, none] [.int s1, .int s0] (hi, sk_hr rr, sk_ks ++ ex) := by
  refine go_isub dX9_next_18 ?_
  refine go_iconst dX9_next_19 (v := 1) (by decide) ?_
  refine go_iadd dX9_next_20 ?_
  refine go_istore dX9_next_21 (Nat.le_of_ble_eq_true rfl) ?_
  show sk_Go Γ (sk_M Γ m_X9_next Q) (0, 0) _ [some (.ref 20), some (.int x1), some (.int x2), some (.int x3), some (.int ((s0 - s1) + 1)), none] [] _
  refine go_iload_n dX9_next_23 rfl ?_
  refine go_iconst dX9_next_24 (v := 3) (by decide) ?_
  refine go_icmp_ge (tgt := 32) dX9_next_25 (by decide) (fun c1 => ?_) (fun c1 => ?_)
  · refine go_iload_n dX9_next_32 rfl ?_
    refine go_iconst dX9_next_33 (v := 3) (by decide) ?_
    refine go_isub dX9_next_34 ?_
    refine go_istore dX9_next_35 (Nat.le_of_ble_eq_true rfl) ?_
    show sk_Go Γ (sk_M Γ m_X9_next Q) (0, 0) _ [some (.ref 20), some (.int x1), some (.int x2), some (.int x3), some (.int ((s0 - s1) + 1)), some (.int (x3 - 3))] [] _
    exact (l1 c1)
  · refine go_iconst dX9_next_28 (v := 0) (by decide) ?_
    refine go_goto (tgt := 35) dX9_next_29 (by decide) ?_
    refine go_istore dX9_next_35 (Nat.le_of_ble_eq_true rfl) ?_
    show sk_Go Γ (sk_M Γ m_X9_next Q) (0, 0) _ [some (.ref 20), some (.int x1), some (.int x2), some (.int x3), some (.int ((s0 - s1) + 1)), some (.int 0)] [] _
    exact (l2 c1)
theorem k_X9_next_37 {x1 x2 x3 x4 x5 : Int32} {hi : Nat → Nat → Int32}
    (l1 : sk_Ct Γ m_X9_on [.ref 20, .int x2, .int x3, .int x5] (hi, sk_hr rr, sk_ks ++ ex) (fun r h' => sk_Go Γ (sk_M Γ m_X9_next Q) (0, 0) 45 [some (.ref 20), some (.int x1), some (.int x2), some (.int x3), some (.int x4), some (.int x5)] (r.toList ++ []) h')) :
    sk_Go Γ (sk_M Γ m_X9_next Q) (0, 0) 37 [some (.ref 20), some (.int x1), some (.int x2), some (.int x3), some (.int x4), some (.int x5)] [] (hi, sk_hr rr, sk_ks ++ ex) := by
  refine go_aload_n dX9_next_37 rfl ?_
  refine go_iload_n dX9_next_38 rfl ?_
  refine go_iload_n dX9_next_39 rfl ?_
  refine go_iload dX9_next_40 rfl ?_
  refine go_callV (μ := m_X9_on) (n := 45) (T := TX9) (N := 10) [.int x2, .int x3, .int x5] dX9_next_42 ok_X9_on ml_X9_58 wx_X9_on wl_X9_on (show _ = some (0, 8) from rfl) rfl rfl (Nat.le_of_ble_eq_true rfl) ⟨Nat.le_of_ble_eq_true rfl, Nat.le_of_ble_eq_true rfl⟩ ⟨Nat.le_of_ble_eq_true rfl, Nat.le_of_ble_eq_true rfl⟩ rfl ?_
  exact l1
theorem k_X9_next_45 {x1 x2 x3 x4 x5 s0 : Int32} {hi : Nat → Nat → Int32}
    (l1 : ¬ s0 = x4 → sk_Go Γ (sk_M Γ m_X9_next Q) (0, 0) 37 [some (.ref 20), some (.int x1), some (.int x2), some (.int x3), some (.int x4), some (.int (x5 + 1))] [] (hi, sk_hr rr, sk_ks ++ ex))
    (o1 : s0 = x4 → vp_in ((32 * (x2 + 1)) + x5) 768)
    (l2 : s0 = x4 → (hi 24 (Int32.toNatClampNeg ((32 * (x2 + 1)) + x5))) = (hi 20 7) → Q (some (.int x5)) (hi, sk_hr rr, sk_ks ++ ex))
    (l3 : s0 = x4 → ¬ (hi 24 (Int32.toNatClampNeg ((32 * (x2 + 1)) + x5))) = (hi 20 7) → sk_Go Γ (sk_M Γ m_X9_next Q) (0, 0) 37 [some (.ref 20), some (.int x1), some (.int x2), some (.int x3), some (.int x4), some (.int (x5 + 1))] [] (hi, sk_hr rr, sk_ks ++ ex)) :
    sk_Go Γ (sk_M Γ m_X9_next Q) (0, 0) 45 [some (.ref 20), some (.int x1), some (.int x2), some (.int x3), some (.int x4), some (.int x5)] [.int s0] (hi, sk_hr rr, sk_ks ++ ex) := by
  refine go_iload dX9_next_45 rfl ?_
  refine go_icmp_ne (tgt := 71) dX9_next_47 (by decide) (fun c1 => ?_) (fun c1 => ?_)
  · refine go_iinc (v := x5 + 1) dX9_next_71 rfl rfl (Nat.le_of_ble_eq_true rfl) ?_
    show sk_Go Γ (sk_M Γ m_X9_next Q) (0, 0) _ [some (.ref 20), some (.int x1), some (.int x2), some (.int x3), some (.int x4), some (.int (x5 + 1))] [] _
    refine go_goto (tgt := 37) dX9_next_74 (by decide) ?_
    exact (l1 c1)
  · refine go_aload_n dX9_next_50 rfl ?_
    refine go_getR dX9_next_51 fl_X9_20 rfl rfl (show _ = some 24 from rfl) ?_
    refine go_bipush dX9_next_54 (v := 32) (by decide) ?_
    refine go_iload_n dX9_next_56 rfl ?_
    refine go_iconst dX9_next_57 (v := 1) (by decide) ?_
    refine go_iadd dX9_next_58 ?_
    refine go_imul dX9_next_59 ?_
    refine go_iload dX9_next_60 rfl ?_
    refine go_iadd dX9_next_62 ?_
    refine go_iald dX9_next_63 (show _ = some (1, 768) from rfl) (o1 c1) ?_
    refine go_aload_n dX9_next_64 rfl ?_
    refine go_getI dX9_next_65 fl_X9_73 rfl rfl ?_
    refine go_icmp_eq (tgt := 77) dX9_next_68 (by decide) (fun c2 => ?_) (fun c2 => ?_)
    · refine go_iload dX9_next_77 rfl ?_
      exact go_iret (μ := m_X9_next) dX9_next_79 rfl (Nat.le_of_ble_eq_true rfl) (Nat.le_of_ble_eq_true rfl) (l2 c1 c2)
    · refine go_iinc (v := x5 + 1) dX9_next_71 rfl rfl (Nat.le_of_ble_eq_true rfl) ?_
      show sk_Go Γ (sk_M Γ m_X9_next Q) (0, 0) _ [some (.ref 20), some (.int x1), some (.int x2), some (.int x3), some (.int x4), some (.int (x5 + 1))] [] _
      refine go_goto (tgt := 37) dX9_next_74 (by decide) ?_
      exact (l3 c1 c2)
theorem k_X9_traces_0 {x1 : Int32} {hi : Nat → Nat → Int32}
    (l1 : sk_Go Γ (sk_M Γ m_X9_traces Q) (0, 0) 8 [some (.ref 20), some (.int x1), some (.int 23), none, none] [] ((sk_wi hi 20 5 0), sk_hr rr, sk_ks ++ ex)) :
    sk_Go Γ (sk_M Γ m_X9_traces Q) (0, 0) 0 [some (.ref 20), some (.int x1), none, none, none] [] (hi, sk_hr rr, sk_ks ++ ex) := by
  refine go_aload_n dX9_traces_0 rfl ?_
  refine go_iconst dX9_traces_1 (v := 0) (by decide) ?_
  refine go_putI dX9_traces_2 fl_X9_62 rfl rfl ?_
  refine go_bipush dX9_traces_5 (v := 23) (by decide) ?_
  refine go_istore_n dX9_traces_7 (Nat.le_of_ble_eq_true rfl) ?_
  show sk_Go Γ (sk_M Γ m_X9_traces Q) (0, 0) _ [some (.ref 20), some (.int x1), some (.int 23), none, none] [] _
  exact l1
theorem k_X9_traces_8 {x1 x2 : Int32} {hi : Nat → Nat → Int32}
    (l1 : x2 < (0 : Int32) → sk_Go Γ (sk_M Γ m_X9_traces Q) (0, 0) 55 [some (.ref 20), some (.int x1), some (.int (-1)), some (.int 0), none] [] (hi, sk_hr rr, sk_ks ++ ex))
    (l2 : ¬ x2 < (0 : Int32) → sk_Ct Γ m_X9_isBarred [.ref 20, .int x1, .int x2] (hi, sk_hr rr, sk_ks ++ ex) (fun r h' => sk_Go Γ (sk_M Γ m_X9_traces Q) (0, 0) 23 [some (.ref 20), some (.int x1), some (.int x2), none, none] (r.toList ++ [.int x2, .ref 25]) h')) :
    sk_Go Γ (sk_M Γ m_X9_traces Q) (0, 0) 8 [some (.ref 20), some (.int x1), some (.int x2), none, none] [] (hi, sk_hr rr, sk_ks ++ ex) := by
  refine go_iload_n dX9_traces_8 rfl ?_
  refine go_if_lt (tgt := 51) dX9_traces_9 (by decide) (fun c1 => ?_) (fun c1 => ?_)
  · refine go_iconst dX9_traces_51 (v := (-1)) (by decide) ?_
    refine go_istore_n dX9_traces_52 (Nat.le_of_ble_eq_true rfl) ?_
    show sk_Go Γ (sk_M Γ m_X9_traces Q) (0, 0) _ [some (.ref 20), some (.int x1), some (.int (-1)), none, none] [] _
    refine go_iconst dX9_traces_53 (v := 0) (by decide) ?_
    refine go_istore_n dX9_traces_54 (Nat.le_of_ble_eq_true rfl) ?_
    show sk_Go Γ (sk_M Γ m_X9_traces Q) (0, 0) _ [some (.ref 20), some (.int x1), some (.int (-1)), some (.int 0), none] [] _
    exact (l1 c1)
  · refine go_aload_n dX9_traces_12 rfl ?_
    refine go_getR dX9_traces_13 fl_X9_23 rfl rfl (show _ = some 25 from rfl) ?_
    refine go_iload_n dX9_traces_16 rfl ?_
    refine go_aload_n dX9_traces_17 rfl ?_
    refine go_iload_n dX9_traces_18 rfl ?_
    refine go_iload_n dX9_traces_19 rfl ?_
    refine go_callV (μ := m_X9_isBarred) (n := 23) (T := TX9) (N := 10) [.int x1, .int x2] dX9_traces_20 ok_X9_isBarred ml_X9_47 wx_X9_isBarred wl_X9_isBarred (show _ = some (0, 8) from rfl) rfl rfl (Nat.le_of_ble_eq_true rfl) ⟨Nat.le_of_ble_eq_true rfl, Nat.le_of_ble_eq_true rfl⟩ ⟨Nat.le_of_ble_eq_true rfl, Nat.le_of_ble_eq_true rfl⟩ rfl ?_
    exact (l2 c1)
theorem k_X9_traces_23 {x1 x2 s2 s1 : Int32} {hi : Nat → Nat → Int32}
    (o1 : vp_in s1 24)
    (o2 : narrow .boolean (.int s2) = .int s2)
    (l1 : sk_Go Γ (sk_M Γ m_X9_traces Q) (0, 0) 26 [some (.ref 20), some (.int x1), some (.int x2), some (.int 0), none] [] ((sk_wi hi 25 (Int32.toNatClampNeg s1) s2), sk_hr rr, sk_ks ++ ex)) :
    sk_Go Γ (sk_M Γ m_X9_traces Q) (0, 0) 23 [some (.ref 20), some (.int x1), some (.int x2), none, none] [.int s2, .int s1, .ref 25] (hi, sk_hr rr, sk_ks ++ ex) := by
  refine go_zast dX9_traces_23 (show _ = some (2, 24) from rfl) o1 o2 ?_
  refine go_iconst dX9_traces_24 (v := 0) (by decide) ?_
  refine go_istore_n dX9_traces_25 (Nat.le_of_ble_eq_true rfl) ?_
  show sk_Go Γ (sk_M Γ m_X9_traces Q) (0, 0) _ [some (.ref 20), some (.int x1), some (.int x2), some (.int 0), none] [] _
  exact l1
theorem k_X9_traces_26 {x1 x2 x3 : Int32} {hi : Nat → Nat → Int32}
    (l1 : (32 : Int32) ≤ x3 → sk_Go Γ (sk_M Γ m_X9_traces Q) (0, 0) 8 [some (.ref 20), some (.int x1), some (.int (x2 + (-1))), none, none] [] (hi, sk_hr rr, sk_ks ++ ex))
    (l2 : ¬ (32 : Int32) ≤ x3 → sk_Ct Γ m_X9_settles [.ref 20, .int x1, .int x2, .int x3] (hi, sk_hr rr, sk_ks ++ ex) (fun r h' => sk_Go Γ (sk_M Γ m_X9_traces Q) (0, 0) 39 [some (.ref 20), some (.int x1), some (.int x2), some (.int x3), none] (r.toList ++ []) h')) :
    sk_Go Γ (sk_M Γ m_X9_traces Q) (0, 0) 26 [some (.ref 20), some (.int x1), some (.int x2), some (.int x3), none] [] (hi, sk_hr rr, sk_ks ++ ex) := by
  refine go_iload_n dX9_traces_26 rfl ?_
  refine go_bipush dX9_traces_27 (v := 32) (by decide) ?_
  refine go_icmp_ge (tgt := 45) dX9_traces_29 (by decide) (fun c1 => ?_) (fun c1 => ?_)
  · refine go_iinc (v := x2 + (-1)) dX9_traces_45 rfl (by rw [show Int32.ofInt (-1) = -1 by decide]) (Nat.le_of_ble_eq_true rfl) ?_
    show sk_Go Γ (sk_M Γ m_X9_traces Q) (0, 0) _ [some (.ref 20), some (.int x1), some (.int (x2 + (-1))), some (.int x3), none] [] _
    refine go_goto (tgt := 8) dX9_traces_48 (by decide) ?_
    exact (go_wk (l1 c1) (show sk_le _ _ from (And.intro rfl (And.intro rfl (And.intro rfl trivial)))))
  · refine go_aload_n dX9_traces_32 rfl ?_
    refine go_iload_n dX9_traces_33 rfl ?_
    refine go_iload_n dX9_traces_34 rfl ?_
    refine go_iload_n dX9_traces_35 rfl ?_
    refine go_callV (μ := m_X9_settles) (n := 39) (T := TX9) (N := 10) [.int x1, .int x2, .int x3] dX9_traces_36 ok_X9_settles ml_X9_66 wx_X9_settles wl_X9_settles (show _ = some (0, 8) from rfl) rfl rfl (Nat.le_of_ble_eq_true rfl) ⟨Nat.le_of_ble_eq_true rfl, Nat.le_of_ble_eq_true rfl⟩ ⟨Nat.le_of_ble_eq_true rfl, Nat.le_of_ble_eq_true rfl⟩ rfl ?_
    exact (l2 c1)
theorem k_X9_traces_39 {x1 x2 x3 : Int32} {hi : Nat → Nat → Int32}
    (l1 : sk_Go Γ (sk_M Γ m_X9_traces Q) (0, 0) 26 [some (.ref 20), some (.int x1), some (.int x2), some (.int (x3 + 1)), none] [] (hi, sk_hr rr, sk_ks ++ ex)) :
    sk_Go Γ (sk_M Γ m_X9_traces Q) (0, 0) 39 [some (.ref 20), some (.int x1), some (.int x2), some (.int x3), none] [] (hi, sk_hr rr, sk_ks ++ ex) := by
  refine go_iinc (v := x3 + 1) dX9_traces_39 rfl rfl (Nat.le_of_ble_eq_true rfl) ?_
  show sk_Go Γ (sk_M Γ m_X9_traces Q) (0, 0) _ [some (.ref 20), some (.int x1), some (.int x2), some (.int (x3 + 1)), none] [] _
  refine go_goto (tgt := 26) dX9_traces_42 (by decide) ?_
  exact l1
theorem k_X9_traces_55 {x1 x2 x3 : Int32} {hi : Nat → Nat → Int32}
    (o1 : (768 : Int32) ≤ x3 → (0 : Int32) ≤ x2 → vp_in x2 768)
    (o2 : (768 : Int32) ≤ x3 → (0 : Int32) ≤ x2 → vp_in (x2 / 32) 24)
    (l1 : (768 : Int32) ≤ x3 → (0 : Int32) ≤ x2 → sk_Go Γ (sk_M Γ m_X9_traces Q) (0, 0) 196 [some (.ref 20), some (.int x1), some (.int x2), some (.int (x2 - x2 / 32 * 32)), some (.int (x2 / 32))] [] ((sk_wi (sk_wi (sk_wi hi 20 6 (x2 / 32)) 20 7 (hi 24 (Int32.toNatClampNeg x2))) 26 (Int32.toNatClampNeg (x2 / 32)) (x2 - x2 / 32 * 32)), sk_hr rr, sk_ks ++ ex))
    (l2 : (768 : Int32) ≤ x3 → ¬ (0 : Int32) ≤ x2 → Q (some (.int 0)) (hi, sk_hr rr, sk_ks ++ ex))
    (o3 : ¬ (768 : Int32) ≤ x3 → vp_in (x3 / 32) 24)
    (l3 : ¬ (768 : Int32) ≤ x3 → ¬ (hi 25 (Int32.toNatClampNeg (x3 / 32))) = (0 : Int32) → sk_Go Γ (sk_M Γ m_X9_traces Q) (0, 0) 55 [some (.ref 20), some (.int x1), some (.int x2), some (.int (x3 + 1)), none] [] (hi, sk_hr rr, sk_ks ++ ex))
    (o4 : ¬ (768 : Int32) ≤ x3 → (hi 25 (Int32.toNatClampNeg (x3 / 32))) = (0 : Int32) → vp_in x3 768)
    (l4 : ¬ (768 : Int32) ≤ x3 → (hi 25 (Int32.toNatClampNeg (x3 / 32))) = (0 : Int32) → (hi 20 5) < (hi 23 (Int32.toNatClampNeg x3)) → sk_Go Γ (sk_M Γ m_X9_traces Q) (0, 0) 55 [some (.ref 20), some (.int x1), some (.int x3), some (.int (x3 + 1)), none] [] ((sk_wi hi 20 5 (hi 23 (Int32.toNatClampNeg x3))), sk_hr rr, sk_ks ++ ex))
    (l5 : ¬ (768 : Int32) ≤ x3 → (hi 25 (Int32.toNatClampNeg (x3 / 32))) = (0 : Int32) → ¬ (hi 20 5) < (hi 23 (Int32.toNatClampNeg x3)) → x2 < (0 : Int32) → sk_Go Γ (sk_M Γ m_X9_traces Q) (0, 0) 55 [some (.ref 20), some (.int x1), some (.int x2), some (.int (x3 + 1)), none] [] (hi, sk_hr rr, sk_ks ++ ex))
    (l6 : ¬ (768 : Int32) ≤ x3 → (hi 25 (Int32.toNatClampNeg (x3 / 32))) = (0 : Int32) → ¬ (hi 20 5) < (hi 23 (Int32.toNatClampNeg x3)) → ¬ x2 < (0 : Int32) → (hi 23 (Int32.toNatClampNeg x3)) < (hi 20 5) → sk_Go Γ (sk_M Γ m_X9_traces Q) (0, 0) 55 [some (.ref 20), some (.int x1), some (.int x2), some (.int (x3 + 1)), none] [] (hi, sk_hr rr, sk_ks ++ ex))
    (l7 : ¬ (768 : Int32) ≤ x3 → (hi 25 (Int32.toNatClampNeg (x3 / 32))) = (0 : Int32) → ¬ (hi 20 5) < (hi 23 (Int32.toNatClampNeg x3)) → ¬ x2 < (0 : Int32) → ¬ (hi 23 (Int32.toNatClampNeg x3)) < (hi 20 5) → (x2 / 32) < (x3 / 32) → sk_Go Γ (sk_M Γ m_X9_traces Q) (0, 0) 55 [some (.ref 20), some (.int x1), some (.int x2), some (.int (x3 + 1)), none] [] (hi, sk_hr rr, sk_ks ++ ex))
    (o5 : ¬ (768 : Int32) ≤ x3 → (hi 25 (Int32.toNatClampNeg (x3 / 32))) = (0 : Int32) → ¬ (hi 20 5) < (hi 23 (Int32.toNatClampNeg x3)) → ¬ x2 < (0 : Int32) → ¬ (hi 23 (Int32.toNatClampNeg x3)) < (hi 20 5) → ¬ (x2 / 32) < (x3 / 32) → vp_in x2 768)
    (l8 : ¬ (768 : Int32) ≤ x3 → (hi 25 (Int32.toNatClampNeg (x3 / 32))) = (0 : Int32) → ¬ (hi 20 5) < (hi 23 (Int32.toNatClampNeg x3)) → ¬ x2 < (0 : Int32) → ¬ (hi 23 (Int32.toNatClampNeg x3)) < (hi 20 5) → ¬ (x2 / 32) < (x3 / 32) → (hi 24 (Int32.toNatClampNeg x3)) < (hi 24 (Int32.toNatClampNeg x2)) → sk_Go Γ (sk_M Γ m_X9_traces Q) (0, 0) 55 [some (.ref 20), some (.int x1), some (.int x3), some (.int (x3 + 1)), none] [] ((sk_wi hi 20 5 (hi 23 (Int32.toNatClampNeg x3))), sk_hr rr, sk_ks ++ ex))
    (l9 : ¬ (768 : Int32) ≤ x3 → (hi 25 (Int32.toNatClampNeg (x3 / 32))) = (0 : Int32) → ¬ (hi 20 5) < (hi 23 (Int32.toNatClampNeg x3)) → ¬ x2 < (0 : Int32) → ¬ (hi 23 (Int32.toNatClampNeg x3)) < (hi 20 5) → ¬ (x2 / 32) < (x3 / 32) → ¬ (hi 24 (Int32.toNatClampNeg x3)) < (hi 24 (Int32.toNatClampNeg x2)) → sk_Go Γ (sk_M Γ m_X9_traces Q) (0, 0) 55 [some (.ref 20), some (.int x1), some (.int x2), some (.int (x3 + 1)), none] [] (hi, sk_hr rr, sk_ks ++ ex)) :
    sk_Go Γ (sk_M Γ m_X9_traces Q) (0, 0) 55 [some (.ref 20), some (.int x1), some (.int x2), some (.int x3), none] [] (hi, sk_hr rr, sk_ks ++ ex) := by
  refine go_iload_n dX9_traces_55 rfl ?_
  refine go_sipush dX9_traces_56 (v := 768) (by decide) ?_
  refine go_icmp_ge (tgt := 151) dX9_traces_59 (by decide) (fun c1 => ?_) (fun c1 => ?_)
  · refine go_iload_n dX9_traces_151 rfl ?_
    refine go_if_ge (tgt := 157) dX9_traces_152 (by decide) (fun c2 => ?_) (fun c2 => ?_)
    · refine go_aload_n dX9_traces_157 rfl ?_
      refine go_iload_n dX9_traces_158 rfl ?_
      refine go_bipush dX9_traces_159 (v := 32) (by decide) ?_
      refine go_idiv dX9_traces_161 (by decide) ?_
      refine go_putI dX9_traces_162 fl_X9_70 rfl rfl ?_
      refine go_aload_n dX9_traces_165 rfl ?_
      refine go_aload_n dX9_traces_166 rfl ?_
      refine go_getR dX9_traces_167 fl_X9_20 rfl rfl (show _ = some 24 from rfl) ?_
      refine go_iload_n dX9_traces_170 rfl ?_
      refine go_iald dX9_traces_171 (show _ = some (1, 768) from rfl) (o1 c1 c2) ?_
      refine go_putI dX9_traces_172 fl_X9_73 rfl rfl ?_
      refine go_iload_n dX9_traces_175 rfl ?_
      refine go_bipush dX9_traces_176 (v := 32) (by decide) ?_
      refine go_irem dX9_traces_178 (by decide) ?_
      refine go_istore_n dX9_traces_179 (Nat.le_of_ble_eq_true rfl) ?_
      show sk_Go Γ (sk_M Γ m_X9_traces Q) (0, 0) _ [some (.ref 20), some (.int x1), some (.int x2), some (.int (x2 - x2 / 32 * 32)), none] [] _
      refine go_aload_n dX9_traces_180 rfl ?_
      refine go_getR dX9_traces_181 fl_X9_26 rfl rfl (show _ = some 26 from rfl) ?_
      refine go_aload_n dX9_traces_184 rfl ?_
      refine go_getI dX9_traces_185 fl_X9_70 rfl rfl ?_
      refine go_iload_n dX9_traces_188 rfl ?_
      refine go_iast dX9_traces_189 (show _ = some (1, 24) from rfl) (o2 c1 c2) ?_
      refine go_aload_n dX9_traces_190 rfl ?_
      refine go_getI dX9_traces_191 fl_X9_70 rfl rfl ?_
      refine go_istore dX9_traces_194 (Nat.le_of_ble_eq_true rfl) ?_
      show sk_Go Γ (sk_M Γ m_X9_traces Q) (0, 0) _ [some (.ref 20), some (.int x1), some (.int x2), some (.int (x2 - x2 / 32 * 32)), some (.int (x2 / 32))] [] _
      exact (l1 c1 c2)
    · refine go_iconst dX9_traces_155 (v := 0) (by decide) ?_
      exact go_zret (μ := m_X9_traces) dX9_traces_156 rfl rfl (Nat.le_of_ble_eq_true rfl) (Nat.le_of_ble_eq_true rfl) (l2 c1 c2)
  · refine go_aload_n dX9_traces_62 rfl ?_
    refine go_getR dX9_traces_63 fl_X9_23 rfl rfl (show _ = some 25 from rfl) ?_
    refine go_iload_n dX9_traces_66 rfl ?_
    refine go_bipush dX9_traces_67 (v := 32) (by decide) ?_
    refine go_idiv dX9_traces_69 (by decide) ?_
    refine go_zald dX9_traces_70 (show _ = some (2, 24) from rfl) (o3 c1) ?_
    refine go_if_ne (tgt := 145) dX9_traces_71 (by decide) (fun c2 => ?_) (fun c2 => ?_)
    · refine go_iinc (v := x3 + 1) dX9_traces_145 rfl rfl (Nat.le_of_ble_eq_true rfl) ?_
      show sk_Go Γ (sk_M Γ m_X9_traces Q) (0, 0) _ [some (.ref 20), some (.int x1), some (.int x2), some (.int (x3 + 1)), none] [] _
      refine go_goto (tgt := 55) dX9_traces_148 (by decide) ?_
      exact (l3 c1 c2)
    · refine go_aload_n dX9_traces_74 rfl ?_
      refine go_getR dX9_traces_75 fl_X9_17 rfl rfl (show _ = some 23 from rfl) ?_
      refine go_iload_n dX9_traces_78 rfl ?_
      refine go_iald dX9_traces_79 (show _ = some (1, 768) from rfl) (o4 c1 c2) ?_
      refine go_aload_n dX9_traces_80 rfl ?_
      refine go_getI dX9_traces_81 fl_X9_62 rfl rfl ?_
      refine go_icmp_gt (tgt := 133) dX9_traces_84 (by decide) (fun c3 => ?_) (fun c3 => ?_)
      · refine go_aload_n dX9_traces_133 rfl ?_
        refine go_aload_n dX9_traces_134 rfl ?_
        refine go_getR dX9_traces_135 fl_X9_17 rfl rfl (show _ = some 23 from rfl) ?_
        refine go_iload_n dX9_traces_138 rfl ?_
        refine go_iald dX9_traces_139 (show _ = some (1, 768) from rfl) (o4 c1 c2) ?_
        refine go_putI dX9_traces_140 fl_X9_62 rfl rfl ?_
        refine go_iload_n dX9_traces_143 rfl ?_
        refine go_istore_n dX9_traces_144 (Nat.le_of_ble_eq_true rfl) ?_
        show sk_Go Γ (sk_M Γ m_X9_traces Q) (0, 0) _ [some (.ref 20), some (.int x1), some (.int x3), some (.int x3), none] [] _
        refine go_iinc (v := x3 + 1) dX9_traces_145 rfl rfl (Nat.le_of_ble_eq_true rfl) ?_
        show sk_Go Γ (sk_M Γ m_X9_traces Q) (0, 0) _ [some (.ref 20), some (.int x1), some (.int x3), some (.int (x3 + 1)), none] [] _
        refine go_goto (tgt := 55) dX9_traces_148 (by decide) ?_
        exact (l4 c1 c2 c3)
      · refine go_iload_n dX9_traces_87 rfl ?_
        refine go_if_lt (tgt := 145) dX9_traces_88 (by decide) (fun c4 => ?_) (fun c4 => ?_)
        · refine go_iinc (v := x3 + 1) dX9_traces_145 rfl rfl (Nat.le_of_ble_eq_true rfl) ?_
          show sk_Go Γ (sk_M Γ m_X9_traces Q) (0, 0) _ [some (.ref 20), some (.int x1), some (.int x2), some (.int (x3 + 1)), none] [] _
          refine go_goto (tgt := 55) dX9_traces_148 (by decide) ?_
          exact (l5 c1 c2 c3 c4)
        · refine go_aload_n dX9_traces_91 rfl ?_
          refine go_getR dX9_traces_92 fl_X9_17 rfl rfl (show _ = some 23 from rfl) ?_
          refine go_iload_n dX9_traces_95 rfl ?_
          refine go_iald dX9_traces_96 (show _ = some (1, 768) from rfl) (o4 c1 c2) ?_
          refine go_aload_n dX9_traces_97 rfl ?_
          refine go_getI dX9_traces_98 fl_X9_62 rfl rfl ?_
          refine go_icmp_lt (tgt := 145) dX9_traces_101 (by decide) (fun c5 => ?_) (fun c5 => ?_)
          · refine go_iinc (v := x3 + 1) dX9_traces_145 rfl rfl (Nat.le_of_ble_eq_true rfl) ?_
            show sk_Go Γ (sk_M Γ m_X9_traces Q) (0, 0) _ [some (.ref 20), some (.int x1), some (.int x2), some (.int (x3 + 1)), none] [] _
            refine go_goto (tgt := 55) dX9_traces_148 (by decide) ?_
            exact (l6 c1 c2 c3 c4 c5)
          · refine go_iload_n dX9_traces_104 rfl ?_
            refine go_bipush dX9_traces_105 (v := 32) (by decide) ?_
            refine go_idiv dX9_traces_107 (by decide) ?_
            refine go_iload_n dX9_traces_108 rfl ?_
            refine go_bipush dX9_traces_109 (v := 32) (by decide) ?_
            refine go_idiv dX9_traces_111 (by decide) ?_
            refine go_icmp_gt (tgt := 145) dX9_traces_112 (by decide) (fun c6 => ?_) (fun c6 => ?_)
            · refine go_iinc (v := x3 + 1) dX9_traces_145 rfl rfl (Nat.le_of_ble_eq_true rfl) ?_
              show sk_Go Γ (sk_M Γ m_X9_traces Q) (0, 0) _ [some (.ref 20), some (.int x1), some (.int x2), some (.int (x3 + 1)), none] [] _
              refine go_goto (tgt := 55) dX9_traces_148 (by decide) ?_
              exact (l7 c1 c2 c3 c4 c5 c6)
            · refine go_aload_n dX9_traces_115 rfl ?_
              refine go_getR dX9_traces_116 fl_X9_20 rfl rfl (show _ = some 24 from rfl) ?_
              refine go_iload_n dX9_traces_119 rfl ?_
              refine go_iald dX9_traces_120 (show _ = some (1, 768) from rfl) (o4 c1 c2) ?_
              refine go_aload_n dX9_traces_121 rfl ?_
              refine go_getR dX9_traces_122 fl_X9_20 rfl rfl (show _ = some 24 from rfl) ?_
              refine go_iload_n dX9_traces_125 rfl ?_
              refine go_iald dX9_traces_126 (show _ = some (1, 768) from rfl) (o5 c1 c2 c3 c4 c5 c6) ?_
              refine go_icmp_lt (tgt := 133) dX9_traces_127 (by decide) (fun c7 => ?_) (fun c7 => ?_)
              · refine go_aload_n dX9_traces_133 rfl ?_
                refine go_aload_n dX9_traces_134 rfl ?_
                refine go_getR dX9_traces_135 fl_X9_17 rfl rfl (show _ = some 23 from rfl) ?_
                refine go_iload_n dX9_traces_138 rfl ?_
                refine go_iald dX9_traces_139 (show _ = some (1, 768) from rfl) (o4 c1 c2) ?_
                refine go_putI dX9_traces_140 fl_X9_62 rfl rfl ?_
                refine go_iload_n dX9_traces_143 rfl ?_
                refine go_istore_n dX9_traces_144 (Nat.le_of_ble_eq_true rfl) ?_
                show sk_Go Γ (sk_M Γ m_X9_traces Q) (0, 0) _ [some (.ref 20), some (.int x1), some (.int x3), some (.int x3), none] [] _
                refine go_iinc (v := x3 + 1) dX9_traces_145 rfl rfl (Nat.le_of_ble_eq_true rfl) ?_
                show sk_Go Γ (sk_M Γ m_X9_traces Q) (0, 0) _ [some (.ref 20), some (.int x1), some (.int x3), some (.int (x3 + 1)), none] [] _
                refine go_goto (tgt := 55) dX9_traces_148 (by decide) ?_
                exact (l8 c1 c2 c3 c4 c5 c6 c7)
              · refine go_goto (tgt := 145) dX9_traces_130 (by decide) ?_
                refine go_iinc (v := x3 + 1) dX9_traces_145 rfl rfl (Nat.le_of_ble_eq_true rfl) ?_
                show sk_Go Γ (sk_M Γ m_X9_traces Q) (0, 0) _ [some (.ref 20), some (.int x1), some (.int x2), some (.int (x3 + 1)), none] [] _
                refine go_goto (tgt := 55) dX9_traces_148 (by decide) ?_
                exact (l9 c1 c2 c3 c4 c5 c6 c7)
theorem k_X9_traces_196 {x1 x2 x3 x4 : Int32} {hi : Nat → Nat → Int32}
    (l1 : (hi 20 7) ≤ x4 → Q (some (.int 1)) (hi, sk_hr rr, sk_ks ++ ex))
    (l2 : ¬ (hi 20 7) ≤ x4 → sk_Ct Γ m_X9_next [.ref 20, .int x1, .int x4, .int x3] (hi, sk_hr rr, sk_ks ++ ex) (fun r h' => sk_Go Γ (sk_M Γ m_X9_traces Q) (0, 0) 213 [some (.ref 20), some (.int x1), some (.int x2), some (.int x3), some (.int x4)] (r.toList ++ []) h')) :
    sk_Go Γ (sk_M Γ m_X9_traces Q) (0, 0) 196 [some (.ref 20), some (.int x1), some (.int x2), some (.int x3), some (.int x4)] [] (hi, sk_hr rr, sk_ks ++ ex) := by
  refine go_iload dX9_traces_196 rfl ?_
  refine go_aload_n dX9_traces_198 rfl ?_
  refine go_getI dX9_traces_199 fl_X9_73 rfl rfl ?_
  refine go_icmp_ge (tgt := 230) dX9_traces_202 (by decide) (fun c1 => ?_) (fun c1 => ?_)
  · refine go_iconst dX9_traces_230 (v := 1) (by decide) ?_
    exact go_zret (μ := m_X9_traces) dX9_traces_231 rfl rfl (Nat.le_of_ble_eq_true rfl) (Nat.le_of_ble_eq_true rfl) (l1 c1)
  · refine go_aload_n dX9_traces_205 rfl ?_
    refine go_iload_n dX9_traces_206 rfl ?_
    refine go_iload dX9_traces_207 rfl ?_
    refine go_iload_n dX9_traces_209 rfl ?_
    refine go_callV (μ := m_X9_next) (n := 213) (T := TX9) (N := 10) [.int x1, .int x4, .int x3] dX9_traces_210 ok_X9_next ml_X9_76 wx_X9_next wl_X9_next (show _ = some (0, 8) from rfl) rfl rfl (Nat.le_of_ble_eq_true rfl) ⟨Nat.le_of_ble_eq_true rfl, Nat.le_of_ble_eq_true rfl⟩ ⟨Nat.le_of_ble_eq_true rfl, Nat.le_of_ble_eq_true rfl⟩ rfl ?_
    exact (l2 c1)
theorem k_X9_traces_213 {x1 x2 x3 x4 s0 : Int32} {hi : Nat → Nat → Int32}
    (o1 : vp_in (x4 + 1) 24)
    (l1 : sk_Go Γ (sk_M Γ m_X9_traces Q) (0, 0) 196 [some (.ref 20), some (.int x1), some (.int x2), some (.int s0), some (.int (x4 + 1))] [] ((sk_wi hi 26 (Int32.toNatClampNeg (x4 + 1)) s0), sk_hr rr, sk_ks ++ ex)) :
    sk_Go Γ (sk_M Γ m_X9_traces Q) (0, 0) 213 [some (.ref 20), some (.int x1), some (.int x2), some (.int x3), some (.int x4)] [.int s0] (hi, sk_hr rr, sk_ks ++ ex) := by
  refine go_istore_n dX9_traces_213 (Nat.le_of_ble_eq_true rfl) ?_
  show sk_Go Γ (sk_M Γ m_X9_traces Q) (0, 0) _ [some (.ref 20), some (.int x1), some (.int x2), some (.int s0), some (.int x4)] [] _
  refine go_aload_n dX9_traces_214 rfl ?_
  refine go_getR dX9_traces_215 fl_X9_26 rfl rfl (show _ = some 26 from rfl) ?_
  refine go_iload dX9_traces_218 rfl ?_
  refine go_iconst dX9_traces_220 (v := 1) (by decide) ?_
  refine go_iadd dX9_traces_221 ?_
  refine go_iload_n dX9_traces_222 rfl ?_
  refine go_iast dX9_traces_223 (show _ = some (1, 24) from rfl) o1 ?_
  refine go_iinc (v := x4 + 1) dX9_traces_224 rfl rfl (Nat.le_of_ble_eq_true rfl) ?_
  show sk_Go Γ (sk_M Γ m_X9_traces Q) (0, 0) _ [some (.ref 20), some (.int x1), some (.int x2), some (.int s0), some (.int (x4 + 1))] [] _
  refine go_goto (tgt := 196) dX9_traces_227 (by decide) ?_
  exact l1
theorem k_X9_letter_0 {x1 : Int32} {hi : Nat → Nat → Int32}
    (l1 : (hi 20 7) = (23 : Int32) → Q (some (.int 1)) (hi, sk_hr rr, sk_ks ++ ex))
    (l2 : ¬ (hi 20 7) = (23 : Int32) → sk_Ct Γ m_X9_isBarred [.ref 20, .int x1, .int ((hi 20 7) + 1)] (hi, sk_hr rr, sk_ks ++ ex) (fun r h' => sk_Go Γ (sk_M Γ m_X9_letter Q) (0, 0) 20 [some (.ref 20), some (.int x1)] (r.toList ++ []) h')) :
    sk_Go Γ (sk_M Γ m_X9_letter Q) (0, 0) 0 [some (.ref 20), some (.int x1)] [] (hi, sk_hr rr, sk_ks ++ ex) := by
  refine go_aload_n dX9_letter_0 rfl ?_
  refine go_getI dX9_letter_1 fl_X9_73 rfl rfl ?_
  refine go_bipush dX9_letter_4 (v := 23) (by decide) ?_
  refine go_icmp_eq (tgt := 23) dX9_letter_6 (by decide) (fun c1 => ?_) (fun c1 => ?_)
  · refine go_iconst dX9_letter_23 (v := 1) (by decide) ?_
    refine go_goto (tgt := 28) dX9_letter_24 (by decide) ?_
    exact go_iret (μ := m_X9_letter) dX9_letter_28 rfl (Nat.le_of_ble_eq_true rfl) (Nat.le_of_ble_eq_true rfl) (l1 c1)
  · refine go_aload_n dX9_letter_9 rfl ?_
    refine go_iload_n dX9_letter_10 rfl ?_
    refine go_aload_n dX9_letter_11 rfl ?_
    refine go_getI dX9_letter_12 fl_X9_73 rfl rfl ?_
    refine go_iconst dX9_letter_15 (v := 1) (by decide) ?_
    refine go_iadd dX9_letter_16 ?_
    refine go_callV (μ := m_X9_isBarred) (n := 20) (T := TX9) (N := 10) [.int x1, .int ((hi 20 7) + 1)] dX9_letter_17 ok_X9_isBarred ml_X9_47 wx_X9_isBarred wl_X9_isBarred (show _ = some (0, 8) from rfl) rfl rfl (Nat.le_of_ble_eq_true rfl) ⟨Nat.le_of_ble_eq_true rfl, Nat.le_of_ble_eq_true rfl⟩ ⟨Nat.le_of_ble_eq_true rfl, Nat.le_of_ble_eq_true rfl⟩ rfl ?_
    exact (l2 c1)
theorem k_X9_letter_20 {x1 s0 : Int32} {hi : Nat → Nat → Int32}
    (l1 : s0 = (0 : Int32) → Q (some (.int 0)) (hi, sk_hr rr, sk_ks ++ ex))
    (l2 : ¬ s0 = (0 : Int32) → Q (some (.int 1)) (hi, sk_hr rr, sk_ks ++ ex)) :
    sk_Go Γ (sk_M Γ m_X9_letter Q) (0, 0) 20 [some (.ref 20), some (.int x1)] [.int s0] (hi, sk_hr rr, sk_ks ++ ex) := by
  refine go_if_eq (tgt := 27) dX9_letter_20 (by decide) (fun c1 => ?_) (fun c1 => ?_)
  · refine go_iconst dX9_letter_27 (v := 0) (by decide) ?_
    exact go_iret (μ := m_X9_letter) dX9_letter_28 rfl (Nat.le_of_ble_eq_true rfl) (Nat.le_of_ble_eq_true rfl) (l1 c1)
  · refine go_iconst dX9_letter_23 (v := 1) (by decide) ?_
    refine go_goto (tgt := 28) dX9_letter_24 (by decide) ?_
    exact go_iret (μ := m_X9_letter) dX9_letter_28 rfl (Nat.le_of_ble_eq_true rfl) (Nat.le_of_ble_eq_true rfl) (l2 c1)
theorem k_X9_trace_0 {x1 x2 : Int32} {hi : Nat → Nat → Int32}
    (l1 : sk_Ct Γ m_X9_isBoard [.int x1] (hi, sk_hr rr, sk_ks ++ ex) (fun r h' => sk_Go Γ (sk_M Γ m_X9_trace Q) (0, 0) 4 [some (.ref 20), some (.int x1), some (.int x2)] (r.toList ++ []) h')) :
    sk_Go Γ (sk_M Γ m_X9_trace Q) (0, 0) 0 [some (.ref 20), some (.int x1), some (.int x2)] [] (hi, sk_hr rr, sk_ks ++ ex) := by
  refine go_iload_n dX9_trace_0 rfl ?_
  refine go_callS (μ := m_X9_isBoard) (n := 4) [.int x1] dX9_trace_1 ok_X9_isBoard ml_X9_36 wx_X9_isBoard rfl (Nat.le_of_ble_eq_true rfl) ⟨Nat.le_of_ble_eq_true rfl, Nat.le_of_ble_eq_true rfl⟩ ⟨Nat.le_of_ble_eq_true rfl, Nat.le_of_ble_eq_true rfl⟩ rfl ?_
  exact l1
theorem k_X9_trace_4 {x1 x2 s0 : Int32} {hi : Nat → Nat → Int32}
    (l1 : s0 = (0 : Int32) → Q (some (.int (-1))) (hi, sk_hr rr, sk_ks ++ ex))
    (l2 : ¬ s0 = (0 : Int32) → sk_Ct Γ m_X9_isIn [.int x2, .int 0, .int 3] (hi, sk_hr rr, sk_ks ++ ex) (fun r h' => sk_Go Γ (sk_M Γ m_X9_trace Q) (0, 0) 13 [some (.ref 20), some (.int x1), some (.int x2)] (r.toList ++ []) h')) :
    sk_Go Γ (sk_M Γ m_X9_trace Q) (0, 0) 4 [some (.ref 20), some (.int x1), some (.int x2)] [.int s0] (hi, sk_hr rr, sk_ks ++ ex) := by
  refine go_if_eq (tgt := 24) dX9_trace_4 (by decide) (fun c1 => ?_) (fun c1 => ?_)
  · refine go_iconst dX9_trace_24 (v := (-1)) (by decide) ?_
    exact go_iret (μ := m_X9_trace) dX9_trace_25 rfl (Nat.le_of_ble_eq_true rfl) (Nat.le_of_ble_eq_true rfl) (l1 c1)
  · refine go_iload_n dX9_trace_7 rfl ?_
    refine go_iconst dX9_trace_8 (v := 0) (by decide) ?_
    refine go_iconst dX9_trace_9 (v := 3) (by decide) ?_
    refine go_callS (μ := m_X9_isIn) (n := 13) [.int x2, .int 0, .int 3] dX9_trace_10 ok_X9_isIn ml_X9_32 wx_X9_isIn rfl (Nat.le_of_ble_eq_true rfl) ⟨Nat.le_of_ble_eq_true rfl, Nat.le_of_ble_eq_true rfl⟩ ⟨Nat.le_of_ble_eq_true rfl, Nat.le_of_ble_eq_true rfl⟩ rfl ?_
    exact (l2 c1)
theorem k_X9_trace_13 {x1 x2 s0 : Int32} {hi : Nat → Nat → Int32}
    (l1 : s0 = (0 : Int32) → Q (some (.int (-1))) (hi, sk_hr rr, sk_ks ++ ex))
    (l2 : ¬ s0 = (0 : Int32) → sk_Ct Γ m_X9_traces [.ref 20, .int x1] (hi, sk_hr rr, sk_ks ++ ex) (fun r h' => sk_Go Γ (sk_M Γ m_X9_trace Q) (0, 0) 21 [some (.ref 20), some (.int x1), some (.int x2)] (r.toList ++ []) h')) :
    sk_Go Γ (sk_M Γ m_X9_trace Q) (0, 0) 13 [some (.ref 20), some (.int x1), some (.int x2)] [.int s0] (hi, sk_hr rr, sk_ks ++ ex) := by
  refine go_if_eq (tgt := 24) dX9_trace_13 (by decide) (fun c1 => ?_) (fun c1 => ?_)
  · refine go_iconst dX9_trace_24 (v := (-1)) (by decide) ?_
    exact go_iret (μ := m_X9_trace) dX9_trace_25 rfl (Nat.le_of_ble_eq_true rfl) (Nat.le_of_ble_eq_true rfl) (l1 c1)
  · refine go_aload_n dX9_trace_16 rfl ?_
    refine go_iload_n dX9_trace_17 rfl ?_
    refine go_callV (μ := m_X9_traces) (n := 21) (T := TX9) (N := 10) [.int x1] dX9_trace_18 ok_X9_traces ml_X9_79 wx_X9_traces wl_X9_traces (show _ = some (0, 8) from rfl) rfl rfl (Nat.le_of_ble_eq_true rfl) ⟨Nat.le_of_ble_eq_true rfl, Nat.le_of_ble_eq_true rfl⟩ ⟨Nat.le_of_ble_eq_true rfl, Nat.le_of_ble_eq_true rfl⟩ rfl ?_
    exact (l2 c1)
theorem k_X9_trace_21 {x1 x2 s0 : Int32} {hi : Nat → Nat → Int32}
    (l1 : ¬ s0 = (0 : Int32) → ¬ x2 = (0 : Int32) → ¬ x2 = (1 : Int32) → ¬ x2 = (2 : Int32) → sk_Ct Γ m_X9_letter [.ref 20, .int x1] (hi, sk_hr rr, sk_ks ++ ex) (fun r h' => sk_Go Γ (sk_M Γ m_X9_trace Q) (0, 0) 66 [some (.ref 20), some (.int x1), some (.int x2)] (r.toList ++ []) h'))
    (l2 : ¬ s0 = (0 : Int32) → ¬ x2 = (0 : Int32) → ¬ x2 = (1 : Int32) → x2 = (2 : Int32) → sk_Go Γ (sk_M Γ m_X9_trace Q) (0, 0) 66 [some (.ref 20), some (.int x1), some (.int x2)] [.int (hi 20 7)] (hi, sk_hr rr, sk_ks ++ ex))
    (l3 : ¬ s0 = (0 : Int32) → ¬ x2 = (0 : Int32) → x2 = (1 : Int32) → sk_Go Γ (sk_M Γ m_X9_trace Q) (0, 0) 66 [some (.ref 20), some (.int x1), some (.int x2)] [.int (hi 20 6)] (hi, sk_hr rr, sk_ks ++ ex))
    (l4 : ¬ s0 = (0 : Int32) → x2 = (0 : Int32) → sk_Go Γ (sk_M Γ m_X9_trace Q) (0, 0) 66 [some (.ref 20), some (.int x1), some (.int x2)] [.int (hi 20 5)] (hi, sk_hr rr, sk_ks ++ ex))
    (l5 : s0 = (0 : Int32) → Q (some (.int (-1))) (hi, sk_hr rr, sk_ks ++ ex)) :
    sk_Go Γ (sk_M Γ m_X9_trace Q) (0, 0) 21 [some (.ref 20), some (.int x1), some (.int x2)] [.int s0] (hi, sk_hr rr, sk_ks ++ ex) := by
  refine go_if_ne (tgt := 26) dX9_trace_21 (by decide) (fun c1 => ?_) (fun c1 => ?_)
  · refine go_iload_n dX9_trace_26 rfl ?_
    refine go_if_ne (tgt := 37) dX9_trace_27 (by decide) (fun c2 => ?_) (fun c2 => ?_)
    · refine go_iload_n dX9_trace_37 rfl ?_
      refine go_iconst dX9_trace_38 (v := 1) (by decide) ?_
      refine go_icmp_ne (tgt := 49) dX9_trace_39 (by decide) (fun c3 => ?_) (fun c3 => ?_)
      · refine go_iload_n dX9_trace_49 rfl ?_
        refine go_iconst dX9_trace_50 (v := 2) (by decide) ?_
        refine go_icmp_ne (tgt := 61) dX9_trace_51 (by decide) (fun c4 => ?_) (fun c4 => ?_)
        · refine go_aload_n dX9_trace_61 rfl ?_
          refine go_iload_n dX9_trace_62 rfl ?_
          refine go_callV (μ := m_X9_letter) (n := 66) (T := TX9) (N := 10) [.int x1] dX9_trace_63 ok_X9_letter ml_X9_82 wx_X9_letter wl_X9_letter (show _ = some (0, 8) from rfl) rfl rfl (Nat.le_of_ble_eq_true rfl) ⟨Nat.le_of_ble_eq_true rfl, Nat.le_of_ble_eq_true rfl⟩ ⟨Nat.le_of_ble_eq_true rfl, Nat.le_of_ble_eq_true rfl⟩ rfl ?_
          exact (l1 c1 c2 c3 c4)
        · refine go_aload_n dX9_trace_54 rfl ?_
          refine go_getI dX9_trace_55 fl_X9_73 rfl rfl ?_
          refine go_goto (tgt := 66) dX9_trace_58 (by decide) ?_
          exact (l2 c1 c2 c3 c4)
      · refine go_aload_n dX9_trace_42 rfl ?_
        refine go_getI dX9_trace_43 fl_X9_70 rfl rfl ?_
        refine go_goto (tgt := 66) dX9_trace_46 (by decide) ?_
        exact (l3 c1 c2 c3)
    · refine go_aload_n dX9_trace_30 rfl ?_
      refine go_getI dX9_trace_31 fl_X9_62 rfl rfl ?_
      refine go_goto (tgt := 66) dX9_trace_34 (by decide) ?_
      exact (l4 c1 c2)
  · refine go_iconst dX9_trace_24 (v := (-1)) (by decide) ?_
    exact go_iret (μ := m_X9_trace) dX9_trace_25 rfl (Nat.le_of_ble_eq_true rfl) (Nat.le_of_ble_eq_true rfl) (l5 c1)
theorem k_X9_trace_66 {x1 x2 s0 : Int32} {hi : Nat → Nat → Int32}
    (l1 : Q (some (.int s0)) (hi, sk_hr rr, sk_ks ++ ex)) :
    sk_Go Γ (sk_M Γ m_X9_trace Q) (0, 0) 66 [some (.ref 20), some (.int x1), some (.int x2)] [.int s0] (hi, sk_hr rr, sk_ks ++ ex) := by
  exact go_iret (μ := m_X9_trace) dX9_trace_66 rfl (Nat.le_of_ble_eq_true rfl) (Nat.le_of_ble_eq_true rfl) l1
theorem k_X9_height_0 {x1 x2 : Int32} {hi : Nat → Nat → Int32}
    (l1 : sk_Ct Γ m_X9_isBoard [.int x1] (hi, sk_hr rr, sk_ks ++ ex) (fun r h' => sk_Go Γ (sk_M Γ m_X9_height Q) (0, 0) 4 [some (.ref 20), some (.int x1), some (.int x2)] (r.toList ++ []) h')) :
    sk_Go Γ (sk_M Γ m_X9_height Q) (0, 0) 0 [some (.ref 20), some (.int x1), some (.int x2)] [] (hi, sk_hr rr, sk_ks ++ ex) := by
  refine go_iload_n dX9_height_0 rfl ?_
  refine go_callS (μ := m_X9_isBoard) (n := 4) [.int x1] dX9_height_1 ok_X9_isBoard ml_X9_36 wx_X9_isBoard rfl (Nat.le_of_ble_eq_true rfl) ⟨Nat.le_of_ble_eq_true rfl, Nat.le_of_ble_eq_true rfl⟩ ⟨Nat.le_of_ble_eq_true rfl, Nat.le_of_ble_eq_true rfl⟩ rfl ?_
  exact l1
theorem k_X9_height_4 {x1 x2 s0 : Int32} {hi : Nat → Nat → Int32}
    (l1 : s0 = (0 : Int32) → Q (some (.int (-1))) (hi, sk_hr rr, sk_ks ++ ex))
    (l2 : ¬ s0 = (0 : Int32) → sk_Ct Γ m_X9_traces [.ref 20, .int x1] (hi, sk_hr rr, sk_ks ++ ex) (fun r h' => sk_Go Γ (sk_M Γ m_X9_height Q) (0, 0) 12 [some (.ref 20), some (.int x1), some (.int x2)] (r.toList ++ []) h')) :
    sk_Go Γ (sk_M Γ m_X9_height Q) (0, 0) 4 [some (.ref 20), some (.int x1), some (.int x2)] [.int s0] (hi, sk_hr rr, sk_ks ++ ex) := by
  refine go_if_eq (tgt := 39) dX9_height_4 (by decide) (fun c1 => ?_) (fun c1 => ?_)
  · refine go_iconst dX9_height_39 (v := (-1)) (by decide) ?_
    exact go_iret (μ := m_X9_height) dX9_height_40 rfl (Nat.le_of_ble_eq_true rfl) (Nat.le_of_ble_eq_true rfl) (l1 c1)
  · refine go_aload_n dX9_height_7 rfl ?_
    refine go_iload_n dX9_height_8 rfl ?_
    refine go_callV (μ := m_X9_traces) (n := 12) (T := TX9) (N := 10) [.int x1] dX9_height_9 ok_X9_traces ml_X9_79 wx_X9_traces wl_X9_traces (show _ = some (0, 8) from rfl) rfl rfl (Nat.le_of_ble_eq_true rfl) ⟨Nat.le_of_ble_eq_true rfl, Nat.le_of_ble_eq_true rfl⟩ ⟨Nat.le_of_ble_eq_true rfl, Nat.le_of_ble_eq_true rfl⟩ rfl ?_
    exact (l2 c1)
theorem k_X9_height_12 {x1 x2 s0 : Int32} {hi : Nat → Nat → Int32}
    (l1 : s0 = (0 : Int32) → Q (some (.int (-1))) (hi, sk_hr rr, sk_ks ++ ex))
    (l2 : ¬ s0 = (0 : Int32) → sk_Ct Γ m_X9_isIn [.int x2, .int (hi 20 6), .int (hi 20 7)] (hi, sk_hr rr, sk_ks ++ ex) (fun r h' => sk_Go Γ (sk_M Γ m_X9_height Q) (0, 0) 27 [some (.ref 20), some (.int x1), some (.int x2)] (r.toList ++ []) h')) :
    sk_Go Γ (sk_M Γ m_X9_height Q) (0, 0) 12 [some (.ref 20), some (.int x1), some (.int x2)] [.int s0] (hi, sk_hr rr, sk_ks ++ ex) := by
  refine go_if_eq (tgt := 39) dX9_height_12 (by decide) (fun c1 => ?_) (fun c1 => ?_)
  · refine go_iconst dX9_height_39 (v := (-1)) (by decide) ?_
    exact go_iret (μ := m_X9_height) dX9_height_40 rfl (Nat.le_of_ble_eq_true rfl) (Nat.le_of_ble_eq_true rfl) (l1 c1)
  · refine go_iload_n dX9_height_15 rfl ?_
    refine go_aload_n dX9_height_16 rfl ?_
    refine go_getI dX9_height_17 fl_X9_70 rfl rfl ?_
    refine go_aload_n dX9_height_20 rfl ?_
    refine go_getI dX9_height_21 fl_X9_73 rfl rfl ?_
    refine go_callS (μ := m_X9_isIn) (n := 27) [.int x2, .int (hi 20 6), .int (hi 20 7)] dX9_height_24 ok_X9_isIn ml_X9_32 wx_X9_isIn rfl (Nat.le_of_ble_eq_true rfl) ⟨Nat.le_of_ble_eq_true rfl, Nat.le_of_ble_eq_true rfl⟩ ⟨Nat.le_of_ble_eq_true rfl, Nat.le_of_ble_eq_true rfl⟩ rfl ?_
    exact (l2 c1)
theorem k_X9_height_27 {x1 x2 s0 : Int32} {hi : Nat → Nat → Int32}
    (l1 : s0 = (0 : Int32) → Q (some (.int (-1))) (hi, sk_hr rr, sk_ks ++ ex))
    (o1 : ¬ s0 = (0 : Int32) → vp_in x2 24)
    (l2 : ¬ s0 = (0 : Int32) → Q (some (.int (hi 26 (Int32.toNatClampNeg x2)))) (hi, sk_hr rr, sk_ks ++ ex)) :
    sk_Go Γ (sk_M Γ m_X9_height Q) (0, 0) 27 [some (.ref 20), some (.int x1), some (.int x2)] [.int s0] (hi, sk_hr rr, sk_ks ++ ex) := by
  refine go_if_eq (tgt := 39) dX9_height_27 (by decide) (fun c1 => ?_) (fun c1 => ?_)
  · refine go_iconst dX9_height_39 (v := (-1)) (by decide) ?_
    exact go_iret (μ := m_X9_height) dX9_height_40 rfl (Nat.le_of_ble_eq_true rfl) (Nat.le_of_ble_eq_true rfl) (l1 c1)
  · refine go_aload_n dX9_height_30 rfl ?_
    refine go_getR dX9_height_31 fl_X9_26 rfl rfl (show _ = some 26 from rfl) ?_
    refine go_iload_n dX9_height_34 rfl ?_
    refine go_iald dX9_height_35 (show _ = some (1, 24) from rfl) (o1 c1) ?_
    refine go_goto (tgt := 40) dX9_height_36 (by decide) ?_
    exact go_iret (μ := m_X9_height) dX9_height_40 rfl (Nat.le_of_ble_eq_true rfl) (Nat.le_of_ble_eq_true rfl) (l2 c1)
theorem k_X9_by_0 {x0 x1 : Int32} {hi : Nat → Nat → Int32}
    (o1 : ¬ (x1 + 1) = 0)
    (l1 : Q (some (.int (100 + ((100 * x0) / (x1 + 1))))) (hi, sk_hr rr, sk_ks ++ ex)) :
    sk_Go Γ (sk_M Γ m_X9_by Q) (0, 0) 0 [some (.int x0), some (.int x1)] [] (hi, sk_hr rr, sk_ks ++ ex) := by
  refine go_bipush dX9_by_0 (v := 100) (by decide) ?_
  refine go_bipush dX9_by_2 (v := 100) (by decide) ?_
  refine go_iload_n dX9_by_4 rfl ?_
  refine go_imul dX9_by_5 ?_
  refine go_iload_n dX9_by_6 rfl ?_
  refine go_iconst dX9_by_7 (v := 1) (by decide) ?_
  refine go_iadd dX9_by_8 ?_
  refine go_idiv dX9_by_9 o1 ?_
  refine go_iadd dX9_by_10 ?_
  exact go_iret (μ := m_X9_by) dX9_by_11 rfl (Nat.le_of_ble_eq_true rfl) (Nat.le_of_ble_eq_true rfl) l1
theorem k_X9_undoes_0 {hi : Nat → Nat → Int32}
    (l1 : sk_Go Γ (sk_M Γ m_X9_undoes Q) (0, 0) 2 [some (.ref 20), some (.int 0), none, none] [] (hi, sk_hr rr, sk_ks ++ ex)) :
    sk_Go Γ (sk_M Γ m_X9_undoes Q) (0, 0) 0 [some (.ref 20), none, none, none] [] (hi, sk_hr rr, sk_ks ++ ex) := by
  refine go_iconst dX9_undoes_0 (v := 0) (by decide) ?_
  refine go_istore_n dX9_undoes_1 (Nat.le_of_ble_eq_true rfl) ?_
  show sk_Go Γ (sk_M Γ m_X9_undoes Q) (0, 0) _ [some (.ref 20), some (.int 0), none, none] [] _
  exact l1
theorem k_X9_undoes_2 {x1 : Int32} {hi : Nat → Nat → Int32}
    (l1 : ((hi 20 7) - (hi 20 6)) < x1 → Q (some (.int (((hi 20 7) - (hi 20 6)) + 1))) (hi, sk_hr rr, sk_ks ++ ex))
    (o1 : ¬ ((hi 20 7) - (hi 20 6)) < x1 → vp_in ((hi 20 6) + x1) 24)
    (l2 : ¬ ((hi 20 7) - (hi 20 6)) < x1 → sk_Go Γ (sk_M Γ m_X9_undoes Q) (0, 0) 34 [some (.ref 20), some (.int x1), some (.int (100000 * ((hi 26 (Int32.toNatClampNeg ((hi 20 6) + x1))) + 1))), some (.int 0)] [] (hi, sk_hr rr, sk_ks ++ ex)) :
    sk_Go Γ (sk_M Γ m_X9_undoes Q) (0, 0) 2 [some (.ref 20), some (.int x1), none, none] [] (hi, sk_hr rr, sk_ks ++ ex) := by
  refine go_iload_n dX9_undoes_2 rfl ?_
  refine go_aload_n dX9_undoes_3 rfl ?_
  refine go_getI dX9_undoes_4 fl_X9_73 rfl rfl ?_
  refine go_aload_n dX9_undoes_7 rfl ?_
  refine go_getI dX9_undoes_8 fl_X9_70 rfl rfl ?_
  refine go_isub dX9_undoes_11 ?_
  refine go_icmp_gt (tgt := 90) dX9_undoes_12 (by decide) (fun c1 => ?_) (fun c1 => ?_)
  · refine go_aload_n dX9_undoes_90 rfl ?_
    refine go_getI dX9_undoes_91 fl_X9_73 rfl rfl ?_
    refine go_aload_n dX9_undoes_94 rfl ?_
    refine go_getI dX9_undoes_95 fl_X9_70 rfl rfl ?_
    refine go_isub dX9_undoes_98 ?_
    refine go_iconst dX9_undoes_99 (v := 1) (by decide) ?_
    refine go_iadd dX9_undoes_100 ?_
    exact go_iret (μ := m_X9_undoes) dX9_undoes_101 rfl (Nat.le_of_ble_eq_true rfl) (Nat.le_of_ble_eq_true rfl) (l1 c1)
  · refine go_ldc dX9_undoes_15 kc_X9_86 ?_
    refine go_aload_n dX9_undoes_17 rfl ?_
    refine go_getR dX9_undoes_18 fl_X9_26 rfl rfl (show _ = some 26 from rfl) ?_
    refine go_aload_n dX9_undoes_21 rfl ?_
    refine go_getI dX9_undoes_22 fl_X9_70 rfl rfl ?_
    refine go_iload_n dX9_undoes_25 rfl ?_
    refine go_iadd dX9_undoes_26 ?_
    refine go_iald dX9_undoes_27 (show _ = some (1, 24) from rfl) (o1 c1) ?_
    refine go_iconst dX9_undoes_28 (v := 1) (by decide) ?_
    refine go_iadd dX9_undoes_29 ?_
    refine go_imul dX9_undoes_30 ?_
    refine go_istore_n dX9_undoes_31 (Nat.le_of_ble_eq_true rfl) ?_
    show sk_Go Γ (sk_M Γ m_X9_undoes Q) (0, 0) _ [some (.ref 20), some (.int x1), some (.int (100000 * ((hi 26 (Int32.toNatClampNeg ((hi 20 6) + x1))) + 1))), none] [] _
    refine go_iconst dX9_undoes_32 (v := 0) (by decide) ?_
    refine go_istore_n dX9_undoes_33 (Nat.le_of_ble_eq_true rfl) ?_
    show sk_Go Γ (sk_M Γ m_X9_undoes Q) (0, 0) _ [some (.ref 20), some (.int x1), some (.int (100000 * ((hi 26 (Int32.toNatClampNeg ((hi 20 6) + x1))) + 1))), some (.int 0)] [] _
    exact (l2 c1)
theorem k_X9_undoes_34 {x1 x2 x3 : Int32} {hi : Nat → Nat → Int32}
    (l1 : x1 ≤ x3 → sk_Ct Γ m_X9_by [.int x1, .int x1] (hi, sk_hr rr, sk_ks ++ ex) (fun r h' => sk_Go Γ (sk_M Γ m_X9_undoes Q) (0, 0) 71 [some (.ref 20), some (.int x1), some (.int x2), some (.int x3)] (r.toList ++ [.int x2, .int x1, .ref 27]) h'))
    (l2 : ¬ x1 ≤ x3 → sk_Ct Γ m_X9_by [.int x3, .int x1] (hi, sk_hr rr, sk_ks ++ ex) (fun r h' => sk_Go Γ (sk_M Γ m_X9_undoes Q) (0, 0) 45 [some (.ref 20), some (.int x1), some (.int x2), some (.int x3)] (r.toList ++ [.int x2]) h')) :
    sk_Go Γ (sk_M Γ m_X9_undoes Q) (0, 0) 34 [some (.ref 20), some (.int x1), some (.int x2), some (.int x3)] [] (hi, sk_hr rr, sk_ks ++ ex) := by
  refine go_iload_n dX9_undoes_34 rfl ?_
  refine go_iload_n dX9_undoes_35 rfl ?_
  refine go_icmp_ge (tgt := 60) dX9_undoes_36 (by decide) (fun c1 => ?_) (fun c1 => ?_)
  · refine go_aload_n dX9_undoes_60 rfl ?_
    refine go_getR dX9_undoes_61 fl_X9_29 rfl rfl (show _ = some 27 from rfl) ?_
    refine go_iload_n dX9_undoes_64 rfl ?_
    refine go_iload_n dX9_undoes_65 rfl ?_
    refine go_iload_n dX9_undoes_66 rfl ?_
    refine go_iload_n dX9_undoes_67 rfl ?_
    refine go_callS (μ := m_X9_by) (n := 71) [.int x1, .int x1] dX9_undoes_68 ok_X9_by ml_X9_87 wx_X9_by rfl (Nat.le_of_ble_eq_true rfl) ⟨Nat.le_of_ble_eq_true rfl, Nat.le_of_ble_eq_true rfl⟩ ⟨Nat.le_of_ble_eq_true rfl, Nat.le_of_ble_eq_true rfl⟩ rfl ?_
    exact (l1 c1)
  · refine go_iload_n dX9_undoes_39 rfl ?_
    refine go_iload_n dX9_undoes_40 rfl ?_
    refine go_iload_n dX9_undoes_41 rfl ?_
    refine go_callS (μ := m_X9_by) (n := 45) [.int x3, .int x1] dX9_undoes_42 ok_X9_by ml_X9_87 wx_X9_by rfl (Nat.le_of_ble_eq_true rfl) ⟨Nat.le_of_ble_eq_true rfl, Nat.le_of_ble_eq_true rfl⟩ ⟨Nat.le_of_ble_eq_true rfl, Nat.le_of_ble_eq_true rfl⟩ rfl ?_
    exact (l2 c1)
theorem k_X9_undoes_45 {x1 x2 x3 s1 s0 : Int32} {hi : Nat → Nat → Int32}
    (o1 : vp_in x3 24)
    (l1 : sk_Go Γ (sk_M Γ m_X9_undoes Q) (0, 0) 34 [some (.ref 20), some (.int x1), some (.int (s0 - (s1 * (hi 27 (Int32.toNatClampNeg x3))))), some (.int (x3 + 1))] [] (hi, sk_hr rr, sk_ks ++ ex)) :
    sk_Go Γ (sk_M Γ m_X9_undoes Q) (0, 0) 45 [some (.ref 20), some (.int x1), some (.int x2), some (.int x3)] [.int s1, .int s0] (hi, sk_hr rr, sk_ks ++ ex) := by
  refine go_aload_n dX9_undoes_45 rfl ?_
  refine go_getR dX9_undoes_46 fl_X9_29 rfl rfl (show _ = some 27 from rfl) ?_
  refine go_iload_n dX9_undoes_49 rfl ?_
  refine go_iald dX9_undoes_50 (show _ = some (1, 24) from rfl) o1 ?_
  refine go_imul dX9_undoes_51 ?_
  refine go_isub dX9_undoes_52 ?_
  refine go_istore_n dX9_undoes_53 (Nat.le_of_ble_eq_true rfl) ?_
  show sk_Go Γ (sk_M Γ m_X9_undoes Q) (0, 0) _ [some (.ref 20), some (.int x1), some (.int (s0 - (s1 * (hi 27 (Int32.toNatClampNeg x3))))), some (.int x3)] [] _
  refine go_iinc (v := x3 + 1) dX9_undoes_54 rfl rfl (Nat.le_of_ble_eq_true rfl) ?_
  show sk_Go Γ (sk_M Γ m_X9_undoes Q) (0, 0) _ [some (.ref 20), some (.int x1), some (.int (s0 - (s1 * (hi 27 (Int32.toNatClampNeg x3))))), some (.int (x3 + 1))] [] _
  refine go_goto (tgt := 34) dX9_undoes_57 (by decide) ?_
  exact l1
theorem k_X9_undoes_71 {x1 x2 x3 s3 s2 s1 : Int32} {hi : Nat → Nat → Int32}
    (o1 : ¬ s3 = 0)
    (o2 : vp_in s1 24)
    (o3 : vp_in x1 24)
    (l1 : (0 : Int32) < ((sk_wi hi 27 (Int32.toNatClampNeg s1) (s2 / s3)) 27 (Int32.toNatClampNeg x1)) → sk_Go Γ (sk_M Γ m_X9_undoes Q) (0, 0) 2 [some (.ref 20), some (.int (x1 + 1)), none, none] [] ((sk_wi hi 27 (Int32.toNatClampNeg s1) (s2 / s3)), sk_hr rr, sk_ks ++ ex))
    (l2 : ¬ (0 : Int32) < ((sk_wi hi 27 (Int32.toNatClampNeg s1) (s2 / s3)) 27 (Int32.toNatClampNeg x1)) → Q (some (.int x1)) ((sk_wi hi 27 (Int32.toNatClampNeg s1) (s2 / s3)), sk_hr rr, sk_ks ++ ex)) :
    sk_Go Γ (sk_M Γ m_X9_undoes Q) (0, 0) 71 [some (.ref 20), some (.int x1), some (.int x2), some (.int x3)] [.int s3, .int s2, .int s1, .ref 27] (hi, sk_hr rr, sk_ks ++ ex) := by
  refine go_idiv dX9_undoes_71 o1 ?_
  refine go_iast dX9_undoes_72 (show _ = some (1, 24) from rfl) o2 ?_
  refine go_aload_n dX9_undoes_73 rfl ?_
  refine go_getR dX9_undoes_74 fl_X9_29 rfl rfl (show _ = some 27 from rfl) ?_
  refine go_iload_n dX9_undoes_77 rfl ?_
  refine go_iald dX9_undoes_78 (show _ = some (1, 24) from rfl) o3 ?_
  refine go_if_gt (tgt := 84) dX9_undoes_79 (by decide) (fun c1 => ?_) (fun c1 => ?_)
  · refine go_iinc (v := x1 + 1) dX9_undoes_84 rfl rfl (Nat.le_of_ble_eq_true rfl) ?_
    show sk_Go Γ (sk_M Γ m_X9_undoes Q) (0, 0) _ [some (.ref 20), some (.int (x1 + 1)), some (.int x2), some (.int x3)] [] _
    refine go_goto (tgt := 2) dX9_undoes_87 (by decide) ?_
    exact (go_wk (l1 c1) (show sk_le _ _ from (And.intro rfl (And.intro rfl trivial))))
  · refine go_iload_n dX9_undoes_82 rfl ?_
    exact go_iret (μ := m_X9_undoes) dX9_undoes_83 rfl (Nat.le_of_ble_eq_true rfl) (Nat.le_of_ble_eq_true rfl) (l2 c1)
theorem k_X9_undone_0 {x1 : Int32} {hi : Nat → Nat → Int32}
    (l1 : sk_Ct Γ m_X9_isBoard [.int x1] (hi, sk_hr rr, sk_ks ++ ex) (fun r h' => sk_Go Γ (sk_M Γ m_X9_undone Q) (0, 0) 4 [some (.ref 20), some (.int x1)] (r.toList ++ []) h')) :
    sk_Go Γ (sk_M Γ m_X9_undone Q) (0, 0) 0 [some (.ref 20), some (.int x1)] [] (hi, sk_hr rr, sk_ks ++ ex) := by
  refine go_iload_n dX9_undone_0 rfl ?_
  refine go_callS (μ := m_X9_isBoard) (n := 4) [.int x1] dX9_undone_1 ok_X9_isBoard ml_X9_36 wx_X9_isBoard rfl (Nat.le_of_ble_eq_true rfl) ⟨Nat.le_of_ble_eq_true rfl, Nat.le_of_ble_eq_true rfl⟩ ⟨Nat.le_of_ble_eq_true rfl, Nat.le_of_ble_eq_true rfl⟩ rfl ?_
  exact l1
theorem k_X9_undone_4 {x1 s0 : Int32} {hi : Nat → Nat → Int32}
    (l1 : s0 = (0 : Int32) → Q (some (.int (-1))) (hi, sk_hr rr, sk_ks ++ ex))
    (l2 : ¬ s0 = (0 : Int32) → sk_Ct Γ m_X9_traces [.ref 20, .int x1] (hi, sk_hr rr, sk_ks ++ ex) (fun r h' => sk_Go Γ (sk_M Γ m_X9_undone Q) (0, 0) 12 [some (.ref 20), some (.int x1)] (r.toList ++ []) h')) :
    sk_Go Γ (sk_M Γ m_X9_undone Q) (0, 0) 4 [some (.ref 20), some (.int x1)] [.int s0] (hi, sk_hr rr, sk_ks ++ ex) := by
  refine go_if_eq (tgt := 22) dX9_undone_4 (by decide) (fun c1 => ?_) (fun c1 => ?_)
  · refine go_iconst dX9_undone_22 (v := (-1)) (by decide) ?_
    exact go_iret (μ := m_X9_undone) dX9_undone_23 rfl (Nat.le_of_ble_eq_true rfl) (Nat.le_of_ble_eq_true rfl) (l1 c1)
  · refine go_aload_n dX9_undone_7 rfl ?_
    refine go_iload_n dX9_undone_8 rfl ?_
    refine go_callV (μ := m_X9_traces) (n := 12) (T := TX9) (N := 10) [.int x1] dX9_undone_9 ok_X9_traces ml_X9_79 wx_X9_traces wl_X9_traces (show _ = some (0, 8) from rfl) rfl rfl (Nat.le_of_ble_eq_true rfl) ⟨Nat.le_of_ble_eq_true rfl, Nat.le_of_ble_eq_true rfl⟩ ⟨Nat.le_of_ble_eq_true rfl, Nat.le_of_ble_eq_true rfl⟩ rfl ?_
    exact (l2 c1)
theorem k_X9_undone_12 {x1 s0 : Int32} {hi : Nat → Nat → Int32}
    (l1 : s0 = (0 : Int32) → Q (some (.int (-1))) (hi, sk_hr rr, sk_ks ++ ex))
    (l2 : ¬ s0 = (0 : Int32) → sk_Ct Γ m_X9_undoes [.ref 20] (hi, sk_hr rr, sk_ks ++ ex) (fun r h' => sk_Go Γ (sk_M Γ m_X9_undone Q) (0, 0) 19 [some (.ref 20), some (.int x1)] (r.toList ++ []) h')) :
    sk_Go Γ (sk_M Γ m_X9_undone Q) (0, 0) 12 [some (.ref 20), some (.int x1)] [.int s0] (hi, sk_hr rr, sk_ks ++ ex) := by
  refine go_if_eq (tgt := 22) dX9_undone_12 (by decide) (fun c1 => ?_) (fun c1 => ?_)
  · refine go_iconst dX9_undone_22 (v := (-1)) (by decide) ?_
    exact go_iret (μ := m_X9_undone) dX9_undone_23 rfl (Nat.le_of_ble_eq_true rfl) (Nat.le_of_ble_eq_true rfl) (l1 c1)
  · refine go_aload_n dX9_undone_15 rfl ?_
    refine go_callV (μ := m_X9_undoes) (n := 19) (T := TX9) (N := 10) [] dX9_undone_16 ok_X9_undoes ml_X9_91 wx_X9_undoes wl_X9_undoes (show _ = some (0, 8) from rfl) rfl rfl (Nat.le_of_ble_eq_true rfl) ⟨Nat.le_of_ble_eq_true rfl, Nat.le_of_ble_eq_true rfl⟩ ⟨Nat.le_of_ble_eq_true rfl, Nat.le_of_ble_eq_true rfl⟩ rfl ?_
    exact (l2 c1)
theorem k_X9_undone_19 {x1 s0 : Int32} {hi : Nat → Nat → Int32}
    (l1 : Q (some (.int s0)) (hi, sk_hr rr, sk_ks ++ ex)) :
    sk_Go Γ (sk_M Γ m_X9_undone Q) (0, 0) 19 [some (.ref 20), some (.int x1)] [.int s0] (hi, sk_hr rr, sk_ks ++ ex) := by
  refine go_goto (tgt := 23) dX9_undone_19 (by decide) ?_
  exact go_iret (μ := m_X9_undone) dX9_undone_23 rfl (Nat.le_of_ble_eq_true rfl) (Nat.le_of_ble_eq_true rfl) l1
theorem k_X9_place_0 {x1 x2 x3 : Int32} {hi : Nat → Nat → Int32}
    (l1 : sk_Ct Γ m_X9_isBoard [.int x1] (hi, sk_hr rr, sk_ks ++ ex) (fun r h' => sk_Go Γ (sk_M Γ m_X9_place Q) (0, 0) 4 [some (.ref 20), some (.int x1), some (.int x2), some (.int x3), none, none, none] (r.toList ++ []) h')) :
    sk_Go Γ (sk_M Γ m_X9_place Q) (0, 0) 0 [some (.ref 20), some (.int x1), some (.int x2), some (.int x3), none, none, none] [] (hi, sk_hr rr, sk_ks ++ ex) := by
  refine go_iload_n dX9_place_0 rfl ?_
  refine go_callS (μ := m_X9_isBoard) (n := 4) [.int x1] dX9_place_1 ok_X9_isBoard ml_X9_36 wx_X9_isBoard rfl (Nat.le_of_ble_eq_true rfl) ⟨Nat.le_of_ble_eq_true rfl, Nat.le_of_ble_eq_true rfl⟩ ⟨Nat.le_of_ble_eq_true rfl, Nat.le_of_ble_eq_true rfl⟩ rfl ?_
  exact l1
theorem k_X9_place_4 {x1 x2 x3 s0 : Int32} {hi : Nat → Nat → Int32}
    (l1 : s0 = (0 : Int32) → Q (some (.int (-1))) (hi, sk_hr rr, sk_ks ++ ex))
    (l2 : ¬ s0 = (0 : Int32) → sk_Ct Γ m_X9_isIn [.int x3, .int 0, .int 2] (hi, sk_hr rr, sk_ks ++ ex) (fun r h' => sk_Go Γ (sk_M Γ m_X9_place Q) (0, 0) 13 [some (.ref 20), some (.int x1), some (.int x2), some (.int x3), none, none, none] (r.toList ++ []) h')) :
    sk_Go Γ (sk_M Γ m_X9_place Q) (0, 0) 4 [some (.ref 20), some (.int x1), some (.int x2), some (.int x3), none, none, none] [.int s0] (hi, sk_hr rr, sk_ks ++ ex) := by
  refine go_if_eq (tgt := 38) dX9_place_4 (by decide) (fun c1 => ?_) (fun c1 => ?_)
  · refine go_iconst dX9_place_38 (v := (-1)) (by decide) ?_
    exact go_iret (μ := m_X9_place) dX9_place_39 rfl (Nat.le_of_ble_eq_true rfl) (Nat.le_of_ble_eq_true rfl) (l1 c1)
  · refine go_iload_n dX9_place_7 rfl ?_
    refine go_iconst dX9_place_8 (v := 0) (by decide) ?_
    refine go_iconst dX9_place_9 (v := 2) (by decide) ?_
    refine go_callS (μ := m_X9_isIn) (n := 13) [.int x3, .int 0, .int 2] dX9_place_10 ok_X9_isIn ml_X9_32 wx_X9_isIn rfl (Nat.le_of_ble_eq_true rfl) ⟨Nat.le_of_ble_eq_true rfl, Nat.le_of_ble_eq_true rfl⟩ ⟨Nat.le_of_ble_eq_true rfl, Nat.le_of_ble_eq_true rfl⟩ rfl ?_
    exact (l2 c1)
theorem k_X9_place_13 {x1 x2 x3 s0 : Int32} {hi : Nat → Nat → Int32}
    (l1 : s0 = (0 : Int32) → Q (some (.int (-1))) (hi, sk_hr rr, sk_ks ++ ex))
    (l2 : ¬ s0 = (0 : Int32) → sk_Ct Γ m_X9_traces [.ref 20, .int x1] (hi, sk_hr rr, sk_ks ++ ex) (fun r h' => sk_Go Γ (sk_M Γ m_X9_place Q) (0, 0) 21 [some (.ref 20), some (.int x1), some (.int x2), some (.int x3), none, none, none] (r.toList ++ []) h')) :
    sk_Go Γ (sk_M Γ m_X9_place Q) (0, 0) 13 [some (.ref 20), some (.int x1), some (.int x2), some (.int x3), none, none, none] [.int s0] (hi, sk_hr rr, sk_ks ++ ex) := by
  refine go_if_eq (tgt := 38) dX9_place_13 (by decide) (fun c1 => ?_) (fun c1 => ?_)
  · refine go_iconst dX9_place_38 (v := (-1)) (by decide) ?_
    exact go_iret (μ := m_X9_place) dX9_place_39 rfl (Nat.le_of_ble_eq_true rfl) (Nat.le_of_ble_eq_true rfl) (l1 c1)
  · refine go_aload_n dX9_place_16 rfl ?_
    refine go_iload_n dX9_place_17 rfl ?_
    refine go_callV (μ := m_X9_traces) (n := 21) (T := TX9) (N := 10) [.int x1] dX9_place_18 ok_X9_traces ml_X9_79 wx_X9_traces wl_X9_traces (show _ = some (0, 8) from rfl) rfl rfl (Nat.le_of_ble_eq_true rfl) ⟨Nat.le_of_ble_eq_true rfl, Nat.le_of_ble_eq_true rfl⟩ ⟨Nat.le_of_ble_eq_true rfl, Nat.le_of_ble_eq_true rfl⟩ rfl ?_
    exact (l2 c1)
theorem k_X9_place_21 {x1 x2 x3 s0 : Int32} {hi : Nat → Nat → Int32}
    (l1 : s0 = (0 : Int32) → Q (some (.int (-1))) (hi, sk_hr rr, sk_ks ++ ex))
    (l2 : ¬ s0 = (0 : Int32) → sk_Ct Γ m_X9_undoes [.ref 20] (hi, sk_hr rr, sk_ks ++ ex) (fun r h' => sk_Go Γ (sk_M Γ m_X9_place Q) (0, 0) 30 [some (.ref 20), some (.int x1), some (.int x2), some (.int x3), none, none, none] (r.toList ++ [.int 0, .int x2]) h')) :
    sk_Go Γ (sk_M Γ m_X9_place Q) (0, 0) 21 [some (.ref 20), some (.int x1), some (.int x2), some (.int x3), none, none, none] [.int s0] (hi, sk_hr rr, sk_ks ++ ex) := by
  refine go_if_eq (tgt := 38) dX9_place_21 (by decide) (fun c1 => ?_) (fun c1 => ?_)
  · refine go_iconst dX9_place_38 (v := (-1)) (by decide) ?_
    exact go_iret (μ := m_X9_place) dX9_place_39 rfl (Nat.le_of_ble_eq_true rfl) (Nat.le_of_ble_eq_true rfl) (l1 c1)
  · refine go_iload_n dX9_place_24 rfl ?_
    refine go_iconst dX9_place_25 (v := 0) (by decide) ?_
    refine go_aload_n dX9_place_26 rfl ?_
    refine go_callV (μ := m_X9_undoes) (n := 30) (T := TX9) (N := 10) [] dX9_place_27 ok_X9_undoes ml_X9_91 wx_X9_undoes wl_X9_undoes (show _ = some (0, 8) from rfl) rfl rfl (Nat.le_of_ble_eq_true rfl) ⟨Nat.le_of_ble_eq_true rfl, Nat.le_of_ble_eq_true rfl⟩ ⟨Nat.le_of_ble_eq_true rfl, Nat.le_of_ble_eq_true rfl⟩ rfl ?_
    exact (l2 c1)
theorem k_X9_place_30 {x1 x2 x3 s2 s1 s0 : Int32} {hi : Nat → Nat → Int32}
    (l1 : sk_Ct Γ m_X9_isIn [.int s0, .int s1, .int (s2 - 1)] (hi, sk_hr rr, sk_ks ++ ex) (fun r h' => sk_Go Γ (sk_M Γ m_X9_place Q) (0, 0) 35 [some (.ref 20), some (.int x1), some (.int x2), some (.int x3), none, none, none] (r.toList ++ []) h')) :
    sk_Go Γ (sk_M Γ m_X9_place Q) (0, 0) 30 [some (.ref 20), some (.int x1), some (.int x2), some (.int x3), none, none, none] [.int s2, .int s1, .int s0] (hi, sk_hr rr, sk_ks ++ ex) := by
  refine go_iconst dX9_place_30 (v := 1) (by decide) ?_
  refine go_isub dX9_place_31 ?_
  refine go_callS (μ := m_X9_isIn) (n := 35) [.int s0, .int s1, .int (s2 - 1)] dX9_place_32 ok_X9_isIn ml_X9_32 wx_X9_isIn rfl (Nat.le_of_ble_eq_true rfl) ⟨Nat.le_of_ble_eq_true rfl, Nat.le_of_ble_eq_true rfl⟩ ⟨Nat.le_of_ble_eq_true rfl, Nat.le_of_ble_eq_true rfl⟩ rfl ?_
  exact l1
theorem k_X9_place_35 {x1 x2 x3 s0 : Int32} {hi : Nat → Nat → Int32}
    (l1 : ¬ s0 = (0 : Int32) → sk_Go Γ (sk_M Γ m_X9_place Q) (0, 0) 49 [some (.ref 20), some (.int x1), some (.int x2), some (.int x3), some (.int 0), some (.int 0), some (.int 0)] [] (hi, sk_hr rr, sk_ks ++ ex))
    (l2 : s0 = (0 : Int32) → Q (some (.int (-1))) (hi, sk_hr rr, sk_ks ++ ex)) :
    sk_Go Γ (sk_M Γ m_X9_place Q) (0, 0) 35 [some (.ref 20), some (.int x1), some (.int x2), some (.int x3), none, none, none] [.int s0] (hi, sk_hr rr, sk_ks ++ ex) := by
  refine go_if_ne (tgt := 40) dX9_place_35 (by decide) (fun c1 => ?_) (fun c1 => ?_)
  · refine go_iconst dX9_place_40 (v := 0) (by decide) ?_
    refine go_istore dX9_place_41 (Nat.le_of_ble_eq_true rfl) ?_
    show sk_Go Γ (sk_M Γ m_X9_place Q) (0, 0) _ [some (.ref 20), some (.int x1), some (.int x2), some (.int x3), some (.int 0), none, none] [] _
    refine go_iconst dX9_place_43 (v := 0) (by decide) ?_
    refine go_istore dX9_place_44 (Nat.le_of_ble_eq_true rfl) ?_
    show sk_Go Γ (sk_M Γ m_X9_place Q) (0, 0) _ [some (.ref 20), some (.int x1), some (.int x2), some (.int x3), some (.int 0), some (.int 0), none] [] _
    refine go_iconst dX9_place_46 (v := 0) (by decide) ?_
    refine go_istore dX9_place_47 (Nat.le_of_ble_eq_true rfl) ?_
    show sk_Go Γ (sk_M Γ m_X9_place Q) (0, 0) _ [some (.ref 20), some (.int x1), some (.int x2), some (.int x3), some (.int 0), some (.int 0), some (.int 0)] [] _
    exact (l1 c1)
  · refine go_iconst dX9_place_38 (v := (-1)) (by decide) ?_
    exact go_iret (μ := m_X9_place) dX9_place_39 rfl (Nat.le_of_ble_eq_true rfl) (Nat.le_of_ble_eq_true rfl) (l2 c1)
theorem k_X9_place_49 {x1 x2 x3 x4 x5 x6 : Int32} {hi : Nat → Nat → Int32}
    (l1 : x2 < x6 → ¬ x3 = (0 : Int32) → ¬ x3 = (1 : Int32) → Q (some (.int ((x5 / 100000) - 1))) (hi, sk_hr rr, sk_ks ++ ex))
    (l2 : x2 < x6 → ¬ x3 = (0 : Int32) → x3 = (1 : Int32) → Q (some (.int x4)) (hi, sk_hr rr, sk_ks ++ ex))
    (o1 : x2 < x6 → x3 = (0 : Int32) → vp_in x2 24)
    (l3 : x2 < x6 → x3 = (0 : Int32) → Q (some (.int (hi 27 (Int32.toNatClampNeg x2)))) (hi, sk_hr rr, sk_ks ++ ex))
    (o2 : ¬ x2 < x6 → vp_in x6 24)
    (l4 : ¬ x2 < x6 → sk_Ct Γ m_X9_by [.int x6, .int x2] (hi, sk_hr rr, sk_ks ++ ex) (fun r h' => sk_Go Γ (sk_M Γ m_X9_place Q) (0, 0) 75 [some (.ref 20), some (.int x1), some (.int x2), some (.int x3), some (.int (x4 + (hi 27 (Int32.toNatClampNeg x6)))), some (.int x5), some (.int x6)] (r.toList ++ [.int x5]) h')) :
    sk_Go Γ (sk_M Γ m_X9_place Q) (0, 0) 49 [some (.ref 20), some (.int x1), some (.int x2), some (.int x3), some (.int x4), some (.int x5), some (.int x6)] [] (hi, sk_hr rr, sk_ks ++ ex) := by
  refine go_iload dX9_place_49 rfl ?_
  refine go_iload_n dX9_place_51 rfl ?_
  refine go_icmp_gt (tgt := 92) dX9_place_52 (by decide) (fun c1 => ?_) (fun c1 => ?_)
  · refine go_iload_n dX9_place_92 rfl ?_
    refine go_if_ne (tgt := 105) dX9_place_93 (by decide) (fun c2 => ?_) (fun c2 => ?_)
    · refine go_iload_n dX9_place_105 rfl ?_
      refine go_iconst dX9_place_106 (v := 1) (by decide) ?_
      refine go_icmp_ne (tgt := 115) dX9_place_107 (by decide) (fun c3 => ?_) (fun c3 => ?_)
      · refine go_iload dX9_place_115 rfl ?_
        refine go_ldc dX9_place_117 kc_X9_86 ?_
        refine go_idiv dX9_place_119 (by decide) ?_
        refine go_iconst dX9_place_120 (v := 1) (by decide) ?_
        refine go_isub dX9_place_121 ?_
        exact go_iret (μ := m_X9_place) dX9_place_122 rfl (Nat.le_of_ble_eq_true rfl) (Nat.le_of_ble_eq_true rfl) (l1 c1 c2 c3)
      · refine go_iload dX9_place_110 rfl ?_
        refine go_goto (tgt := 122) dX9_place_112 (by decide) ?_
        exact go_iret (μ := m_X9_place) dX9_place_122 rfl (Nat.le_of_ble_eq_true rfl) (Nat.le_of_ble_eq_true rfl) (l2 c1 c2 c3)
    · refine go_aload_n dX9_place_96 rfl ?_
      refine go_getR dX9_place_97 fl_X9_29 rfl rfl (show _ = some 27 from rfl) ?_
      refine go_iload_n dX9_place_100 rfl ?_
      refine go_iald dX9_place_101 (show _ = some (1, 24) from rfl) (o1 c1 c2) ?_
      refine go_goto (tgt := 122) dX9_place_102 (by decide) ?_
      exact go_iret (μ := m_X9_place) dX9_place_122 rfl (Nat.le_of_ble_eq_true rfl) (Nat.le_of_ble_eq_true rfl) (l3 c1 c2)
  · refine go_iload dX9_place_55 rfl ?_
    refine go_aload_n dX9_place_57 rfl ?_
    refine go_getR dX9_place_58 fl_X9_29 rfl rfl (show _ = some 27 from rfl) ?_
    refine go_iload dX9_place_61 rfl ?_
    refine go_iald dX9_place_63 (show _ = some (1, 24) from rfl) (o2 c1) ?_
    refine go_iadd dX9_place_64 ?_
    refine go_istore dX9_place_65 (Nat.le_of_ble_eq_true rfl) ?_
    show sk_Go Γ (sk_M Γ m_X9_place Q) (0, 0) _ [some (.ref 20), some (.int x1), some (.int x2), some (.int x3), some (.int (x4 + (hi 27 (Int32.toNatClampNeg x6)))), some (.int x5), some (.int x6)] [] _
    refine go_iload dX9_place_67 rfl ?_
    refine go_iload dX9_place_69 rfl ?_
    refine go_iload_n dX9_place_71 rfl ?_
    refine go_callS (μ := m_X9_by) (n := 75) [.int x6, .int x2] dX9_place_72 ok_X9_by ml_X9_87 wx_X9_by rfl (Nat.le_of_ble_eq_true rfl) ⟨Nat.le_of_ble_eq_true rfl, Nat.le_of_ble_eq_true rfl⟩ ⟨Nat.le_of_ble_eq_true rfl, Nat.le_of_ble_eq_true rfl⟩ rfl ?_
    exact (l4 c1)
theorem k_X9_place_75 {x1 x2 x3 x4 x5 x6 s1 s0 : Int32} {hi : Nat → Nat → Int32}
    (o1 : vp_in x6 24)
    (l1 : sk_Go Γ (sk_M Γ m_X9_place Q) (0, 0) 49 [some (.ref 20), some (.int x1), some (.int x2), some (.int x3), some (.int x4), some (.int (s0 + (s1 * (hi 27 (Int32.toNatClampNeg x6))))), some (.int (x6 + 1))] [] (hi, sk_hr rr, sk_ks ++ ex)) :
    sk_Go Γ (sk_M Γ m_X9_place Q) (0, 0) 75 [some (.ref 20), some (.int x1), some (.int x2), some (.int x3), some (.int x4), some (.int x5), some (.int x6)] [.int s1, .int s0] (hi, sk_hr rr, sk_ks ++ ex) := by
  refine go_aload_n dX9_place_75 rfl ?_
  refine go_getR dX9_place_76 fl_X9_29 rfl rfl (show _ = some 27 from rfl) ?_
  refine go_iload dX9_place_79 rfl ?_
  refine go_iald dX9_place_81 (show _ = some (1, 24) from rfl) o1 ?_
  refine go_imul dX9_place_82 ?_
  refine go_iadd dX9_place_83 ?_
  refine go_istore dX9_place_84 (Nat.le_of_ble_eq_true rfl) ?_
  show sk_Go Γ (sk_M Γ m_X9_place Q) (0, 0) _ [some (.ref 20), some (.int x1), some (.int x2), some (.int x3), some (.int x4), some (.int (s0 + (s1 * (hi 27 (Int32.toNatClampNeg x6))))), some (.int x6)] [] _
  refine go_iinc (v := x6 + 1) dX9_place_86 rfl rfl (Nat.le_of_ble_eq_true rfl) ?_
  show sk_Go Γ (sk_M Γ m_X9_place Q) (0, 0) _ [some (.ref 20), some (.int x1), some (.int x2), some (.int x3), some (.int x4), some (.int (s0 + (s1 * (hi 27 (Int32.toNatClampNeg x6))))), some (.int (x6 + 1))] [] _
  refine go_goto (tgt := 49) dX9_place_89 (by decide) ?_
  exact l1
theorem k_X9_isHour_0 {x0 x1 : Int32} {hi : Nat → Nat → Int32}
    (l1 : sk_Ct Γ m_X9_isIn [.int x0, .int 0, .int 23] (hi, sk_hr rr, sk_ks ++ ex) (fun r h' => sk_Go Γ (sk_M Γ m_X9_isHour Q) (0, 0) 7 [some (.int x0), some (.int x1)] (r.toList ++ []) h')) :
    sk_Go Γ (sk_M Γ m_X9_isHour Q) (0, 0) 0 [some (.int x0), some (.int x1)] [] (hi, sk_hr rr, sk_ks ++ ex) := by
  refine go_iload_n dX9_isHour_0 rfl ?_
  refine go_iconst dX9_isHour_1 (v := 0) (by decide) ?_
  refine go_bipush dX9_isHour_2 (v := 23) (by decide) ?_
  refine go_callS (μ := m_X9_isIn) (n := 7) [.int x0, .int 0, .int 23] dX9_isHour_4 ok_X9_isIn ml_X9_32 wx_X9_isIn rfl (Nat.le_of_ble_eq_true rfl) ⟨Nat.le_of_ble_eq_true rfl, Nat.le_of_ble_eq_true rfl⟩ ⟨Nat.le_of_ble_eq_true rfl, Nat.le_of_ble_eq_true rfl⟩ rfl ?_
  exact l1
theorem k_X9_isHour_7 {x0 x1 s0 : Int32} {hi : Nat → Nat → Int32}
    (l1 : s0 = (0 : Int32) → Q (some (.int 0)) (hi, sk_hr rr, sk_ks ++ ex))
    (l2 : ¬ s0 = (0 : Int32) → sk_Ct Γ m_X9_isIn [.int x1, .int 0, .int 30] (hi, sk_hr rr, sk_ks ++ ex) (fun r h' => sk_Go Γ (sk_M Γ m_X9_isHour Q) (0, 0) 17 [some (.int x0), some (.int x1)] (r.toList ++ []) h')) :
    sk_Go Γ (sk_M Γ m_X9_isHour Q) (0, 0) 7 [some (.int x0), some (.int x1)] [.int s0] (hi, sk_hr rr, sk_ks ++ ex) := by
  refine go_if_eq (tgt := 24) dX9_isHour_7 (by decide) (fun c1 => ?_) (fun c1 => ?_)
  · refine go_iconst dX9_isHour_24 (v := 0) (by decide) ?_
    exact go_zret (μ := m_X9_isHour) dX9_isHour_25 rfl rfl (Nat.le_of_ble_eq_true rfl) (Nat.le_of_ble_eq_true rfl) (l1 c1)
  · refine go_iload_n dX9_isHour_10 rfl ?_
    refine go_iconst dX9_isHour_11 (v := 0) (by decide) ?_
    refine go_bipush dX9_isHour_12 (v := 30) (by decide) ?_
    refine go_callS (μ := m_X9_isIn) (n := 17) [.int x1, .int 0, .int 30] dX9_isHour_14 ok_X9_isIn ml_X9_32 wx_X9_isIn rfl (Nat.le_of_ble_eq_true rfl) ⟨Nat.le_of_ble_eq_true rfl, Nat.le_of_ble_eq_true rfl⟩ ⟨Nat.le_of_ble_eq_true rfl, Nat.le_of_ble_eq_true rfl⟩ rfl ?_
    exact (l2 c1)
theorem k_X9_isHour_17 {x0 x1 s0 : Int32} {hi : Nat → Nat → Int32}
    (l1 : s0 = (0 : Int32) → Q (some (.int 0)) (hi, sk_hr rr, sk_ks ++ ex))
    (l2 : ¬ s0 = (0 : Int32) → Q (some (.int 1)) (hi, sk_hr rr, sk_ks ++ ex)) :
    sk_Go Γ (sk_M Γ m_X9_isHour Q) (0, 0) 17 [some (.int x0), some (.int x1)] [.int s0] (hi, sk_hr rr, sk_ks ++ ex) := by
  refine go_if_eq (tgt := 24) dX9_isHour_17 (by decide) (fun c1 => ?_) (fun c1 => ?_)
  · refine go_iconst dX9_isHour_24 (v := 0) (by decide) ?_
    exact go_zret (μ := m_X9_isHour) dX9_isHour_25 rfl rfl (Nat.le_of_ble_eq_true rfl) (Nat.le_of_ble_eq_true rfl) (l1 c1)
  · refine go_iconst dX9_isHour_20 (v := 1) (by decide) ?_
    refine go_goto (tgt := 25) dX9_isHour_21 (by decide) ?_
    exact go_zret (μ := m_X9_isHour) dX9_isHour_25 rfl rfl (Nat.le_of_ble_eq_true rfl) (Nat.le_of_ble_eq_true rfl) (l2 c1)
theorem k_X9_cell_0 {x0 x1 : Int32} {hi : Nat → Nat → Int32}
    (l1 : Q (some (.int (20 + (2 * ((31 * x0) + x1))))) (hi, sk_hr rr, sk_ks ++ ex)) :
    sk_Go Γ (sk_M Γ m_X9_cell Q) (0, 0) 0 [some (.int x0), some (.int x1)] [] (hi, sk_hr rr, sk_ks ++ ex) := by
  refine go_bipush dX9_cell_0 (v := 20) (by decide) ?_
  refine go_iconst dX9_cell_2 (v := 2) (by decide) ?_
  refine go_bipush dX9_cell_3 (v := 31) (by decide) ?_
  refine go_iload_n dX9_cell_5 rfl ?_
  refine go_imul dX9_cell_6 ?_
  refine go_iload_n dX9_cell_7 rfl ?_
  refine go_iadd dX9_cell_8 ?_
  refine go_imul dX9_cell_9 ?_
  refine go_iadd dX9_cell_10 ?_
  exact go_iret (μ := m_X9_cell) dX9_cell_11 rfl (Nat.le_of_ble_eq_true rfl) (Nat.le_of_ble_eq_true rfl) l1
theorem k_X9_sets_0 {x1 x2 x3 x4 : Int32} {hi : Nat → Nat → Int32}
    (l1 : sk_Ct Γ m_X9_cell [.int x1, .int x2] (hi, sk_hr rr, sk_ks ++ ex) (fun r h' => sk_Go Γ (sk_M Γ m_X9_sets Q) (0, 0) 9 [some (.ref 20), some (.int x1), some (.int x2), some (.int x3), some (.int x4)] (r.toList ++ [.ref 21]) h')) :
    sk_Go Γ (sk_M Γ m_X9_sets Q) (0, 0) 0 [some (.ref 20), some (.int x1), some (.int x2), some (.int x3), some (.int x4)] [] (hi, sk_hr rr, sk_ks ++ ex) := by
  refine go_aload_n dX9_sets_0 rfl ?_
  refine go_getR dX9_sets_1 fl_X9_7 rfl rfl (show _ = some 21 from rfl) ?_
  refine go_iload_n dX9_sets_4 rfl ?_
  refine go_iload_n dX9_sets_5 rfl ?_
  refine go_callS (μ := m_X9_cell) (n := 9) [.int x1, .int x2] dX9_sets_6 ok_X9_cell ml_X9_95 wx_X9_cell rfl (Nat.le_of_ble_eq_true rfl) ⟨Nat.le_of_ble_eq_true rfl, Nat.le_of_ble_eq_true rfl⟩ ⟨Nat.le_of_ble_eq_true rfl, Nat.le_of_ble_eq_true rfl⟩ rfl ?_
  exact l1
theorem k_X9_sets_9 {x1 x2 x3 x4 s1 : Int32} {hi : Nat → Nat → Int32}
    (o1 : vp_in s1 18368)
    (l1 : sk_Ct Γ m_X9_cell [.int x1, .int x2] ((sk_wi hi 21 (Int32.toNatClampNeg s1) x3), sk_hr rr, sk_ks ++ ex) (fun r h' => sk_Go Γ (sk_M Γ m_X9_sets Q) (0, 0) 20 [some (.ref 20), some (.int x1), some (.int x2), some (.int x3), some (.int x4)] (r.toList ++ [.ref 21]) h')) :
    sk_Go Γ (sk_M Γ m_X9_sets Q) (0, 0) 9 [some (.ref 20), some (.int x1), some (.int x2), some (.int x3), some (.int x4)] [.int s1, .ref 21] (hi, sk_hr rr, sk_ks ++ ex) := by
  refine go_iload_n dX9_sets_9 rfl ?_
  refine go_iast dX9_sets_10 (show _ = some (1, 18368) from rfl) o1 ?_
  refine go_aload_n dX9_sets_11 rfl ?_
  refine go_getR dX9_sets_12 fl_X9_7 rfl rfl (show _ = some 21 from rfl) ?_
  refine go_iload_n dX9_sets_15 rfl ?_
  refine go_iload_n dX9_sets_16 rfl ?_
  refine go_callS (μ := m_X9_cell) (n := 20) [.int x1, .int x2] dX9_sets_17 ok_X9_cell ml_X9_95 wx_X9_cell rfl (Nat.le_of_ble_eq_true rfl) ⟨Nat.le_of_ble_eq_true rfl, Nat.le_of_ble_eq_true rfl⟩ ⟨Nat.le_of_ble_eq_true rfl, Nat.le_of_ble_eq_true rfl⟩ rfl ?_
  exact l1
theorem k_X9_sets_20 {x1 x2 x3 x4 s1 : Int32} {hi : Nat → Nat → Int32}
    (o1 : vp_in (s1 + 1) 18368)
    (l1 : Q none ((sk_wi hi 21 (Int32.toNatClampNeg (s1 + 1)) x4), sk_hr rr, sk_ks ++ ex)) :
    sk_Go Γ (sk_M Γ m_X9_sets Q) (0, 0) 20 [some (.ref 20), some (.int x1), some (.int x2), some (.int x3), some (.int x4)] [.int s1, .ref 21] (hi, sk_hr rr, sk_ks ++ ex) := by
  refine go_iconst dX9_sets_20 (v := 1) (by decide) ?_
  refine go_iadd dX9_sets_21 ?_
  refine go_iload dX9_sets_22 rfl ?_
  refine go_iast dX9_sets_24 (show _ = some (1, 18368) from rfl) o1 ?_
  exact go_vret (μ := m_X9_sets) dX9_sets_25 rfl (Nat.le_of_ble_eq_true rfl) (Nat.le_of_ble_eq_true rfl) l1
theorem k_X9_value_0 {x1 x2 x3 x4 : Int32} {hi : Nat → Nat → Int32}
    (l1 : sk_Ct Γ m_X9_isHour [.int x1, .int x2] (hi, sk_hr rr, sk_ks ++ ex) (fun r h' => sk_Go Γ (sk_M Γ m_X9_value Q) (0, 0) 5 [some (.ref 20), some (.int x1), some (.int x2), some (.int x3), some (.int x4)] (r.toList ++ []) h')) :
    sk_Go Γ (sk_M Γ m_X9_value Q) (0, 0) 0 [some (.ref 20), some (.int x1), some (.int x2), some (.int x3), some (.int x4)] [] (hi, sk_hr rr, sk_ks ++ ex) := by
  refine go_iload_n dX9_value_0 rfl ?_
  refine go_iload_n dX9_value_1 rfl ?_
  refine go_callS (μ := m_X9_isHour) (n := 5) [.int x1, .int x2] dX9_value_2 ok_X9_isHour ml_X9_98 wx_X9_isHour rfl (Nat.le_of_ble_eq_true rfl) ⟨Nat.le_of_ble_eq_true rfl, Nat.le_of_ble_eq_true rfl⟩ ⟨Nat.le_of_ble_eq_true rfl, Nat.le_of_ble_eq_true rfl⟩ rfl ?_
  exact l1
theorem k_X9_value_5 {x1 x2 x3 x4 s0 : Int32} {hi : Nat → Nat → Int32}
    (l1 : s0 = (0 : Int32) → Q (some (.int 0)) (hi, sk_hr rr, sk_ks ++ ex))
    (l2 : ¬ s0 = (0 : Int32) → sk_Ct Γ m_X9_isIn [.int x3, .int 0, .int 999] (hi, sk_hr rr, sk_ks ++ ex) (fun r h' => sk_Go Γ (sk_M Γ m_X9_value Q) (0, 0) 16 [some (.ref 20), some (.int x1), some (.int x2), some (.int x3), some (.int x4)] (r.toList ++ []) h')) :
    sk_Go Γ (sk_M Γ m_X9_value Q) (0, 0) 5 [some (.ref 20), some (.int x1), some (.int x2), some (.int x3), some (.int x4)] [.int s0] (hi, sk_hr rr, sk_ks ++ ex) := by
  refine go_if_eq (tgt := 29) dX9_value_5 (by decide) (fun c1 => ?_) (fun c1 => ?_)
  · refine go_iconst dX9_value_29 (v := 0) (by decide) ?_
    exact go_zret (μ := m_X9_value) dX9_value_30 rfl rfl (Nat.le_of_ble_eq_true rfl) (Nat.le_of_ble_eq_true rfl) (l1 c1)
  · refine go_iload_n dX9_value_8 rfl ?_
    refine go_iconst dX9_value_9 (v := 0) (by decide) ?_
    refine go_sipush dX9_value_10 (v := 999) (by decide) ?_
    refine go_callS (μ := m_X9_isIn) (n := 16) [.int x3, .int 0, .int 999] dX9_value_13 ok_X9_isIn ml_X9_32 wx_X9_isIn rfl (Nat.le_of_ble_eq_true rfl) ⟨Nat.le_of_ble_eq_true rfl, Nat.le_of_ble_eq_true rfl⟩ ⟨Nat.le_of_ble_eq_true rfl, Nat.le_of_ble_eq_true rfl⟩ rfl ?_
    exact (l2 c1)
theorem k_X9_value_16 {x1 x2 x3 x4 s0 : Int32} {hi : Nat → Nat → Int32}
    (l1 : s0 = (0 : Int32) → Q (some (.int 0)) (hi, sk_hr rr, sk_ks ++ ex))
    (l2 : ¬ s0 = (0 : Int32) → sk_Ct Γ m_X9_isIn [.int x4, .int 0, .int 2] (hi, sk_hr rr, sk_ks ++ ex) (fun r h' => sk_Go Γ (sk_M Γ m_X9_value Q) (0, 0) 26 [some (.ref 20), some (.int x1), some (.int x2), some (.int x3), some (.int x4)] (r.toList ++ []) h')) :
    sk_Go Γ (sk_M Γ m_X9_value Q) (0, 0) 16 [some (.ref 20), some (.int x1), some (.int x2), some (.int x3), some (.int x4)] [.int s0] (hi, sk_hr rr, sk_ks ++ ex) := by
  refine go_if_eq (tgt := 29) dX9_value_16 (by decide) (fun c1 => ?_) (fun c1 => ?_)
  · refine go_iconst dX9_value_29 (v := 0) (by decide) ?_
    exact go_zret (μ := m_X9_value) dX9_value_30 rfl rfl (Nat.le_of_ble_eq_true rfl) (Nat.le_of_ble_eq_true rfl) (l1 c1)
  · refine go_iload dX9_value_19 rfl ?_
    refine go_iconst dX9_value_21 (v := 0) (by decide) ?_
    refine go_iconst dX9_value_22 (v := 2) (by decide) ?_
    refine go_callS (μ := m_X9_isIn) (n := 26) [.int x4, .int 0, .int 2] dX9_value_23 ok_X9_isIn ml_X9_32 wx_X9_isIn rfl (Nat.le_of_ble_eq_true rfl) ⟨Nat.le_of_ble_eq_true rfl, Nat.le_of_ble_eq_true rfl⟩ ⟨Nat.le_of_ble_eq_true rfl, Nat.le_of_ble_eq_true rfl⟩ rfl ?_
    exact (l2 c1)
theorem k_X9_value_26 {x1 x2 x3 x4 s0 : Int32} {hi : Nat → Nat → Int32}
    (l1 : ¬ s0 = (0 : Int32) → sk_Ct Γ m_X9_sets [.ref 20, .int x1, .int x2, .int x3, .int x4] (hi, sk_hr rr, sk_ks ++ ex) (fun r h' => sk_Go Γ (sk_M Γ m_X9_value Q) (0, 0) 40 [some (.ref 20), some (.int x1), some (.int x2), some (.int x3), some (.int x4)] (r.toList ++ []) h'))
    (l2 : s0 = (0 : Int32) → Q (some (.int 0)) (hi, sk_hr rr, sk_ks ++ ex)) :
    sk_Go Γ (sk_M Γ m_X9_value Q) (0, 0) 26 [some (.ref 20), some (.int x1), some (.int x2), some (.int x3), some (.int x4)] [.int s0] (hi, sk_hr rr, sk_ks ++ ex) := by
  refine go_if_ne (tgt := 31) dX9_value_26 (by decide) (fun c1 => ?_) (fun c1 => ?_)
  · refine go_aload_n dX9_value_31 rfl ?_
    refine go_iload_n dX9_value_32 rfl ?_
    refine go_iload_n dX9_value_33 rfl ?_
    refine go_iload_n dX9_value_34 rfl ?_
    refine go_iload dX9_value_35 rfl ?_
    refine go_callV (μ := m_X9_sets) (n := 40) (T := TX9) (N := 10) [.int x1, .int x2, .int x3, .int x4] dX9_value_37 ok_X9_sets ml_X9_101 wx_X9_sets wl_X9_sets (show _ = some (0, 8) from rfl) rfl rfl (Nat.le_of_ble_eq_true rfl) ⟨Nat.le_of_ble_eq_true rfl, Nat.le_of_ble_eq_true rfl⟩ ⟨Nat.le_of_ble_eq_true rfl, Nat.le_of_ble_eq_true rfl⟩ rfl ?_
    exact (l1 c1)
  · refine go_iconst dX9_value_29 (v := 0) (by decide) ?_
    exact go_zret (μ := m_X9_value) dX9_value_30 rfl rfl (Nat.le_of_ble_eq_true rfl) (Nat.le_of_ble_eq_true rfl) (l2 c1)
theorem k_X9_value_40 {x1 x2 x3 x4 : Int32} {hi : Nat → Nat → Int32}
    (l1 : Q (some (.int 1)) (hi, sk_hr rr, sk_ks ++ ex)) :
    sk_Go Γ (sk_M Γ m_X9_value Q) (0, 0) 40 [some (.ref 20), some (.int x1), some (.int x2), some (.int x3), some (.int x4)] [] (hi, sk_hr rr, sk_ks ++ ex) := by
  refine go_iconst dX9_value_40 (v := 1) (by decide) ?_
  exact go_zret (μ := m_X9_value) dX9_value_41 rfl rfl (Nat.le_of_ble_eq_true rfl) (Nat.le_of_ble_eq_true rfl) l1
theorem k_X9_scale_0 {x1 x2 x3 : Int32} {hi : Nat → Nat → Int32}
    (l1 : sk_Ct Γ m_X9_isBoard [.int x1] (hi, sk_hr rr, sk_ks ++ ex) (fun r h' => sk_Go Γ (sk_M Γ m_X9_scale Q) (0, 0) 4 [some (.ref 20), some (.int x1), some (.int x2), some (.int x3)] (r.toList ++ []) h')) :
    sk_Go Γ (sk_M Γ m_X9_scale Q) (0, 0) 0 [some (.ref 20), some (.int x1), some (.int x2), some (.int x3)] [] (hi, sk_hr rr, sk_ks ++ ex) := by
  refine go_iload_n dX9_scale_0 rfl ?_
  refine go_callS (μ := m_X9_isBoard) (n := 4) [.int x1] dX9_scale_1 ok_X9_isBoard ml_X9_36 wx_X9_isBoard rfl (Nat.le_of_ble_eq_true rfl) ⟨Nat.le_of_ble_eq_true rfl, Nat.le_of_ble_eq_true rfl⟩ ⟨Nat.le_of_ble_eq_true rfl, Nat.le_of_ble_eq_true rfl⟩ rfl ?_
  exact l1
theorem k_X9_scale_4 {x1 x2 x3 s0 : Int32} {hi : Nat → Nat → Int32}
    (l1 : s0 = (0 : Int32) → Q (some (.int 0)) (hi, sk_hr rr, sk_ks ++ ex))
    (l2 : ¬ s0 = (0 : Int32) → sk_Ct Γ m_X9_isHour [.int x2, .int x3] (hi, sk_hr rr, sk_ks ++ ex) (fun r h' => sk_Go Γ (sk_M Γ m_X9_scale Q) (0, 0) 12 [some (.ref 20), some (.int x1), some (.int x2), some (.int x3)] (r.toList ++ []) h')) :
    sk_Go Γ (sk_M Γ m_X9_scale Q) (0, 0) 4 [some (.ref 20), some (.int x1), some (.int x2), some (.int x3)] [.int s0] (hi, sk_hr rr, sk_ks ++ ex) := by
  refine go_if_eq (tgt := 15) dX9_scale_4 (by decide) (fun c1 => ?_) (fun c1 => ?_)
  · refine go_iconst dX9_scale_15 (v := 0) (by decide) ?_
    exact go_zret (μ := m_X9_scale) dX9_scale_16 rfl rfl (Nat.le_of_ble_eq_true rfl) (Nat.le_of_ble_eq_true rfl) (l1 c1)
  · refine go_iload_n dX9_scale_7 rfl ?_
    refine go_iload_n dX9_scale_8 rfl ?_
    refine go_callS (μ := m_X9_isHour) (n := 12) [.int x2, .int x3] dX9_scale_9 ok_X9_isHour ml_X9_98 wx_X9_isHour rfl (Nat.le_of_ble_eq_true rfl) ⟨Nat.le_of_ble_eq_true rfl, Nat.le_of_ble_eq_true rfl⟩ ⟨Nat.le_of_ble_eq_true rfl, Nat.le_of_ble_eq_true rfl⟩ rfl ?_
    exact (l2 c1)
theorem k_X9_scale_12 {x1 x2 x3 s0 : Int32} {hi : Nat → Nat → Int32}
    (l1 : ¬ s0 = (0 : Int32) → sk_Ct Γ m_X9_traces [.ref 20, .int x1] (hi, sk_hr rr, sk_ks ++ ex) (fun r h' => sk_Go Γ (sk_M Γ m_X9_scale Q) (0, 0) 22 [some (.ref 20), some (.int x1), some (.int x2), some (.int x3)] (r.toList ++ []) h'))
    (l2 : s0 = (0 : Int32) → Q (some (.int 0)) (hi, sk_hr rr, sk_ks ++ ex)) :
    sk_Go Γ (sk_M Γ m_X9_scale Q) (0, 0) 12 [some (.ref 20), some (.int x1), some (.int x2), some (.int x3)] [.int s0] (hi, sk_hr rr, sk_ks ++ ex) := by
  refine go_if_ne (tgt := 17) dX9_scale_12 (by decide) (fun c1 => ?_) (fun c1 => ?_)
  · refine go_aload_n dX9_scale_17 rfl ?_
    refine go_iload_n dX9_scale_18 rfl ?_
    refine go_callV (μ := m_X9_traces) (n := 22) (T := TX9) (N := 10) [.int x1] dX9_scale_19 ok_X9_traces ml_X9_79 wx_X9_traces wl_X9_traces (show _ = some (0, 8) from rfl) rfl rfl (Nat.le_of_ble_eq_true rfl) ⟨Nat.le_of_ble_eq_true rfl, Nat.le_of_ble_eq_true rfl⟩ ⟨Nat.le_of_ble_eq_true rfl, Nat.le_of_ble_eq_true rfl⟩ rfl ?_
    exact (l1 c1)
  · refine go_iconst dX9_scale_15 (v := 0) (by decide) ?_
    exact go_zret (μ := m_X9_scale) dX9_scale_16 rfl rfl (Nat.le_of_ble_eq_true rfl) (Nat.le_of_ble_eq_true rfl) (l2 c1)
theorem k_X9_scale_22 {x1 x2 x3 s0 : Int32} {hi : Nat → Nat → Int32}
    (l1 : s0 = (0 : Int32) → sk_Ct Γ m_X9_sets [.ref 20, .int x2, .int x3, .int (-1), .int 0] (hi, sk_hr rr, sk_ks ++ ex) (fun r h' => sk_Go Γ (sk_M Γ m_X9_scale Q) (0, 0) 54 [some (.ref 20), some (.int x1), some (.int x2), some (.int x3)] (r.toList ++ []) h'))
    (l2 : ¬ s0 = (0 : Int32) → sk_Ct Γ m_X9_letter [.ref 20, .int x1] (hi, sk_hr rr, sk_ks ++ ex) (fun r h' => sk_Go Γ (sk_M Γ m_X9_scale Q) (0, 0) 40 [some (.ref 20), some (.int x1), some (.int x2), some (.int x3)] (r.toList ++ [.int (10 * (hi 20 7)), .int x3, .int x2, .ref 20]) h')) :
    sk_Go Γ (sk_M Γ m_X9_scale Q) (0, 0) 22 [some (.ref 20), some (.int x1), some (.int x2), some (.int x3)] [.int s0] (hi, sk_hr rr, sk_ks ++ ex) := by
  refine go_if_eq (tgt := 46) dX9_scale_22 (by decide) (fun c1 => ?_) (fun c1 => ?_)
  · refine go_aload_n dX9_scale_46 rfl ?_
    refine go_iload_n dX9_scale_47 rfl ?_
    refine go_iload_n dX9_scale_48 rfl ?_
    refine go_iconst dX9_scale_49 (v := (-1)) (by decide) ?_
    refine go_iconst dX9_scale_50 (v := 0) (by decide) ?_
    refine go_callV (μ := m_X9_sets) (n := 54) (T := TX9) (N := 10) [.int x2, .int x3, .int (-1), .int 0] dX9_scale_51 ok_X9_sets ml_X9_101 wx_X9_sets wl_X9_sets (show _ = some (0, 8) from rfl) rfl rfl (Nat.le_of_ble_eq_true rfl) ⟨Nat.le_of_ble_eq_true rfl, Nat.le_of_ble_eq_true rfl⟩ ⟨Nat.le_of_ble_eq_true rfl, Nat.le_of_ble_eq_true rfl⟩ rfl ?_
    exact (l1 c1)
  · refine go_aload_n dX9_scale_25 rfl ?_
    refine go_iload_n dX9_scale_26 rfl ?_
    refine go_iload_n dX9_scale_27 rfl ?_
    refine go_bipush dX9_scale_28 (v := 10) (by decide) ?_
    refine go_aload_n dX9_scale_30 rfl ?_
    refine go_getI dX9_scale_31 fl_X9_73 rfl rfl ?_
    refine go_imul dX9_scale_34 ?_
    refine go_aload_n dX9_scale_35 rfl ?_
    refine go_iload_n dX9_scale_36 rfl ?_
    refine go_callV (μ := m_X9_letter) (n := 40) (T := TX9) (N := 10) [.int x1] dX9_scale_37 ok_X9_letter ml_X9_82 wx_X9_letter wl_X9_letter (show _ = some (0, 8) from rfl) rfl rfl (Nat.le_of_ble_eq_true rfl) ⟨Nat.le_of_ble_eq_true rfl, Nat.le_of_ble_eq_true rfl⟩ ⟨Nat.le_of_ble_eq_true rfl, Nat.le_of_ble_eq_true rfl⟩ rfl ?_
    exact (l2 c1)
theorem k_X9_scale_40 {x1 x2 x3 s4 s3 s2 s1 : Int32} {hi : Nat → Nat → Int32}
    (l1 : sk_Ct Γ m_X9_sets [.ref 20, .int s1, .int s2, .int s3, .int s4] (hi, sk_hr rr, sk_ks ++ ex) (fun r h' => sk_Go Γ (sk_M Γ m_X9_scale Q) (0, 0) 43 [some (.ref 20), some (.int x1), some (.int x2), some (.int x3)] (r.toList ++ []) h')) :
    sk_Go Γ (sk_M Γ m_X9_scale Q) (0, 0) 40 [some (.ref 20), some (.int x1), some (.int x2), some (.int x3)] [.int s4, .int s3, .int s2, .int s1, .ref 20] (hi, sk_hr rr, sk_ks ++ ex) := by
  refine go_callV (μ := m_X9_sets) (n := 43) (T := TX9) (N := 10) [.int s1, .int s2, .int s3, .int s4] dX9_scale_40 ok_X9_sets ml_X9_101 wx_X9_sets wl_X9_sets (show _ = some (0, 8) from rfl) rfl rfl (Nat.le_of_ble_eq_true rfl) ⟨Nat.le_of_ble_eq_true rfl, Nat.le_of_ble_eq_true rfl⟩ ⟨Nat.le_of_ble_eq_true rfl, Nat.le_of_ble_eq_true rfl⟩ rfl ?_
  exact l1
theorem k_X9_scale_43 {x1 x2 x3 : Int32} {hi : Nat → Nat → Int32}
    (l1 : sk_Go Γ (sk_M Γ m_X9_scale Q) (0, 0) 54 [some (.ref 20), some (.int x1), some (.int x2), some (.int x3)] [] (hi, sk_hr rr, sk_ks ++ ex)) :
    sk_Go Γ (sk_M Γ m_X9_scale Q) (0, 0) 43 [some (.ref 20), some (.int x1), some (.int x2), some (.int x3)] [] (hi, sk_hr rr, sk_ks ++ ex) := by
  refine go_goto (tgt := 54) dX9_scale_43 (by decide) ?_
  exact l1
theorem k_X9_scale_54 {x1 x2 x3 : Int32} {hi : Nat → Nat → Int32}
    (l1 : Q (some (.int 1)) (hi, sk_hr rr, sk_ks ++ ex)) :
    sk_Go Γ (sk_M Γ m_X9_scale Q) (0, 0) 54 [some (.ref 20), some (.int x1), some (.int x2), some (.int x3)] [] (hi, sk_hr rr, sk_ks ++ ex) := by
  refine go_iconst dX9_scale_54 (v := 1) (by decide) ?_
  exact go_zret (μ := m_X9_scale) dX9_scale_55 rfl rfl (Nat.le_of_ble_eq_true rfl) (Nat.le_of_ble_eq_true rfl) l1
theorem k_X9_miss_0 {x1 x2 : Int32} {hi : Nat → Nat → Int32}
    (l1 : sk_Ct Γ m_X9_isHour [.int x1, .int x2] (hi, sk_hr rr, sk_ks ++ ex) (fun r h' => sk_Go Γ (sk_M Γ m_X9_miss Q) (0, 0) 5 [some (.ref 20), some (.int x1), some (.int x2)] (r.toList ++ []) h')) :
    sk_Go Γ (sk_M Γ m_X9_miss Q) (0, 0) 0 [some (.ref 20), some (.int x1), some (.int x2)] [] (hi, sk_hr rr, sk_ks ++ ex) := by
  refine go_iload_n dX9_miss_0 rfl ?_
  refine go_iload_n dX9_miss_1 rfl ?_
  refine go_callS (μ := m_X9_isHour) (n := 5) [.int x1, .int x2] dX9_miss_2 ok_X9_isHour ml_X9_98 wx_X9_isHour rfl (Nat.le_of_ble_eq_true rfl) ⟨Nat.le_of_ble_eq_true rfl, Nat.le_of_ble_eq_true rfl⟩ ⟨Nat.le_of_ble_eq_true rfl, Nat.le_of_ble_eq_true rfl⟩ rfl ?_
  exact l1
theorem k_X9_miss_5 {x1 x2 s0 : Int32} {hi : Nat → Nat → Int32}
    (l1 : ¬ s0 = (0 : Int32) → sk_Ct Γ m_X9_sets [.ref 20, .int x1, .int x2, .int (-1), .int 0] (hi, sk_hr rr, sk_ks ++ ex) (fun r h' => sk_Go Γ (sk_M Γ m_X9_miss Q) (0, 0) 18 [some (.ref 20), some (.int x1), some (.int x2)] (r.toList ++ []) h'))
    (l2 : s0 = (0 : Int32) → Q (some (.int 0)) (hi, sk_hr rr, sk_ks ++ ex)) :
    sk_Go Γ (sk_M Γ m_X9_miss Q) (0, 0) 5 [some (.ref 20), some (.int x1), some (.int x2)] [.int s0] (hi, sk_hr rr, sk_ks ++ ex) := by
  refine go_if_ne (tgt := 10) dX9_miss_5 (by decide) (fun c1 => ?_) (fun c1 => ?_)
  · refine go_aload_n dX9_miss_10 rfl ?_
    refine go_iload_n dX9_miss_11 rfl ?_
    refine go_iload_n dX9_miss_12 rfl ?_
    refine go_iconst dX9_miss_13 (v := (-1)) (by decide) ?_
    refine go_iconst dX9_miss_14 (v := 0) (by decide) ?_
    refine go_callV (μ := m_X9_sets) (n := 18) (T := TX9) (N := 10) [.int x1, .int x2, .int (-1), .int 0] dX9_miss_15 ok_X9_sets ml_X9_101 wx_X9_sets wl_X9_sets (show _ = some (0, 8) from rfl) rfl rfl (Nat.le_of_ble_eq_true rfl) ⟨Nat.le_of_ble_eq_true rfl, Nat.le_of_ble_eq_true rfl⟩ ⟨Nat.le_of_ble_eq_true rfl, Nat.le_of_ble_eq_true rfl⟩ rfl ?_
    exact (l1 c1)
  · refine go_iconst dX9_miss_8 (v := 0) (by decide) ?_
    exact go_zret (μ := m_X9_miss) dX9_miss_9 rfl rfl (Nat.le_of_ble_eq_true rfl) (Nat.le_of_ble_eq_true rfl) (l2 c1)
theorem k_X9_miss_18 {x1 x2 : Int32} {hi : Nat → Nat → Int32}
    (l1 : Q (some (.int 1)) (hi, sk_hr rr, sk_ks ++ ex)) :
    sk_Go Γ (sk_M Γ m_X9_miss Q) (0, 0) 18 [some (.ref 20), some (.int x1), some (.int x2)] [] (hi, sk_hr rr, sk_ks ++ ex) := by
  refine go_iconst dX9_miss_18 (v := 1) (by decide) ?_
  exact go_zret (μ := m_X9_miss) dX9_miss_19 rfl rfl (Nat.le_of_ble_eq_true rfl) (Nat.le_of_ble_eq_true rfl) l1
theorem k_X9_table_0 {x1 x2 x3 : Int32} {hi : Nat → Nat → Int32}
    (l1 : sk_Ct Γ m_X9_isHour [.int x1, .int x2] (hi, sk_hr rr, sk_ks ++ ex) (fun r h' => sk_Go Γ (sk_M Γ m_X9_table Q) (0, 0) 5 [some (.ref 20), some (.int x1), some (.int x2), some (.int x3)] (r.toList ++ []) h')) :
    sk_Go Γ (sk_M Γ m_X9_table Q) (0, 0) 0 [some (.ref 20), some (.int x1), some (.int x2), some (.int x3)] [] (hi, sk_hr rr, sk_ks ++ ex) := by
  refine go_iload_n dX9_table_0 rfl ?_
  refine go_iload_n dX9_table_1 rfl ?_
  refine go_callS (μ := m_X9_isHour) (n := 5) [.int x1, .int x2] dX9_table_2 ok_X9_isHour ml_X9_98 wx_X9_isHour rfl (Nat.le_of_ble_eq_true rfl) ⟨Nat.le_of_ble_eq_true rfl, Nat.le_of_ble_eq_true rfl⟩ ⟨Nat.le_of_ble_eq_true rfl, Nat.le_of_ble_eq_true rfl⟩ rfl ?_
  exact l1
theorem k_X9_table_5 {x1 x2 x3 s0 : Int32} {hi : Nat → Nat → Int32}
    (l1 : s0 = (0 : Int32) → Q (some (.int (-1))) (hi, sk_hr rr, sk_ks ++ ex))
    (l2 : ¬ s0 = (0 : Int32) → sk_Ct Γ m_X9_isIn [.int x3, .int 0, .int 1] (hi, sk_hr rr, sk_ks ++ ex) (fun r h' => sk_Go Γ (sk_M Γ m_X9_table Q) (0, 0) 14 [some (.ref 20), some (.int x1), some (.int x2), some (.int x3)] (r.toList ++ []) h')) :
    sk_Go Γ (sk_M Γ m_X9_table Q) (0, 0) 5 [some (.ref 20), some (.int x1), some (.int x2), some (.int x3)] [.int s0] (hi, sk_hr rr, sk_ks ++ ex) := by
  refine go_if_eq (tgt := 45) dX9_table_5 (by decide) (fun c1 => ?_) (fun c1 => ?_)
  · refine go_iconst dX9_table_45 (v := (-1)) (by decide) ?_
    exact go_iret (μ := m_X9_table) dX9_table_46 rfl (Nat.le_of_ble_eq_true rfl) (Nat.le_of_ble_eq_true rfl) (l1 c1)
  · refine go_iload_n dX9_table_8 rfl ?_
    refine go_iconst dX9_table_9 (v := 0) (by decide) ?_
    refine go_iconst dX9_table_10 (v := 1) (by decide) ?_
    refine go_callS (μ := m_X9_isIn) (n := 14) [.int x3, .int 0, .int 1] dX9_table_11 ok_X9_isIn ml_X9_32 wx_X9_isIn rfl (Nat.le_of_ble_eq_true rfl) ⟨Nat.le_of_ble_eq_true rfl, Nat.le_of_ble_eq_true rfl⟩ ⟨Nat.le_of_ble_eq_true rfl, Nat.le_of_ble_eq_true rfl⟩ rfl ?_
    exact (l2 c1)
theorem k_X9_table_14 {x1 x2 x3 s0 : Int32} {hi : Nat → Nat → Int32}
    (l1 : s0 = (0 : Int32) → Q (some (.int (-1))) (hi, sk_hr rr, sk_ks ++ ex))
    (l2 : ¬ s0 = (0 : Int32) → sk_Ct Γ m_X9_cell [.int x1, .int x2] (hi, sk_hr rr, sk_ks ++ ex) (fun r h' => sk_Go Γ (sk_M Γ m_X9_table Q) (0, 0) 26 [some (.ref 20), some (.int x1), some (.int x2), some (.int x3)] (r.toList ++ [.ref 21]) h')) :
    sk_Go Γ (sk_M Γ m_X9_table Q) (0, 0) 14 [some (.ref 20), some (.int x1), some (.int x2), some (.int x3)] [.int s0] (hi, sk_hr rr, sk_ks ++ ex) := by
  refine go_if_eq (tgt := 45) dX9_table_14 (by decide) (fun c1 => ?_) (fun c1 => ?_)
  · refine go_iconst dX9_table_45 (v := (-1)) (by decide) ?_
    exact go_iret (μ := m_X9_table) dX9_table_46 rfl (Nat.le_of_ble_eq_true rfl) (Nat.le_of_ble_eq_true rfl) (l1 c1)
  · refine go_aload_n dX9_table_17 rfl ?_
    refine go_getR dX9_table_18 fl_X9_7 rfl rfl (show _ = some 21 from rfl) ?_
    refine go_iload_n dX9_table_21 rfl ?_
    refine go_iload_n dX9_table_22 rfl ?_
    refine go_callS (μ := m_X9_cell) (n := 26) [.int x1, .int x2] dX9_table_23 ok_X9_cell ml_X9_95 wx_X9_cell rfl (Nat.le_of_ble_eq_true rfl) ⟨Nat.le_of_ble_eq_true rfl, Nat.le_of_ble_eq_true rfl⟩ ⟨Nat.le_of_ble_eq_true rfl, Nat.le_of_ble_eq_true rfl⟩ rfl ?_
    exact (l2 c1)
theorem k_X9_table_26 {x1 x2 x3 s1 : Int32} {hi : Nat → Nat → Int32}
    (o1 : vp_in s1 18368)
    (l1 : (hi 21 (Int32.toNatClampNeg s1)) < (0 : Int32) → Q (some (.int (-1))) (hi, sk_hr rr, sk_ks ++ ex))
    (l2 : ¬ (hi 21 (Int32.toNatClampNeg s1)) < (0 : Int32) → sk_Ct Γ m_X9_cell [.int x1, .int x2] (hi, sk_hr rr, sk_ks ++ ex) (fun r h' => sk_Go Γ (sk_M Γ m_X9_table Q) (0, 0) 39 [some (.ref 20), some (.int x1), some (.int x2), some (.int x3)] (r.toList ++ [.ref 21]) h')) :
    sk_Go Γ (sk_M Γ m_X9_table Q) (0, 0) 26 [some (.ref 20), some (.int x1), some (.int x2), some (.int x3)] [.int s1, .ref 21] (hi, sk_hr rr, sk_ks ++ ex) := by
  refine go_iald dX9_table_26 (show _ = some (1, 18368) from rfl) o1 ?_
  refine go_if_lt (tgt := 45) dX9_table_27 (by decide) (fun c1 => ?_) (fun c1 => ?_)
  · refine go_iconst dX9_table_45 (v := (-1)) (by decide) ?_
    exact go_iret (μ := m_X9_table) dX9_table_46 rfl (Nat.le_of_ble_eq_true rfl) (Nat.le_of_ble_eq_true rfl) (l1 c1)
  · refine go_aload_n dX9_table_30 rfl ?_
    refine go_getR dX9_table_31 fl_X9_7 rfl rfl (show _ = some 21 from rfl) ?_
    refine go_iload_n dX9_table_34 rfl ?_
    refine go_iload_n dX9_table_35 rfl ?_
    refine go_callS (μ := m_X9_cell) (n := 39) [.int x1, .int x2] dX9_table_36 ok_X9_cell ml_X9_95 wx_X9_cell rfl (Nat.le_of_ble_eq_true rfl) ⟨Nat.le_of_ble_eq_true rfl, Nat.le_of_ble_eq_true rfl⟩ ⟨Nat.le_of_ble_eq_true rfl, Nat.le_of_ble_eq_true rfl⟩ rfl ?_
    exact (l2 c1)
theorem k_X9_table_39 {x1 x2 x3 s1 : Int32} {hi : Nat → Nat → Int32}
    (o1 : vp_in (s1 + x3) 18368)
    (l1 : Q (some (.int (hi 21 (Int32.toNatClampNeg (s1 + x3))))) (hi, sk_hr rr, sk_ks ++ ex)) :
    sk_Go Γ (sk_M Γ m_X9_table Q) (0, 0) 39 [some (.ref 20), some (.int x1), some (.int x2), some (.int x3)] [.int s1, .ref 21] (hi, sk_hr rr, sk_ks ++ ex) := by
  refine go_iload_n dX9_table_39 rfl ?_
  refine go_iadd dX9_table_40 ?_
  refine go_iald dX9_table_41 (show _ = some (1, 18368) from rfl) o1 ?_
  refine go_goto (tgt := 46) dX9_table_42 (by decide) ?_
  exact go_iret (μ := m_X9_table) dX9_table_46 rfl (Nat.le_of_ble_eq_true rfl) (Nat.le_of_ble_eq_true rfl) l1
theorem k_X9_present_0 {x1 : Int32} {hi : Nat → Nat → Int32}
    (l1 : sk_Go Γ (sk_M Γ m_X9_present Q) (0, 0) 4 [some (.ref 20), some (.int x1), some (.int 0), some (.int 0)] [] (hi, sk_hr rr, sk_ks ++ ex)) :
    sk_Go Γ (sk_M Γ m_X9_present Q) (0, 0) 0 [some (.ref 20), some (.int x1), none, none] [] (hi, sk_hr rr, sk_ks ++ ex) := by
  refine go_iconst dX9_present_0 (v := 0) (by decide) ?_
  refine go_istore_n dX9_present_1 (Nat.le_of_ble_eq_true rfl) ?_
  show sk_Go Γ (sk_M Γ m_X9_present Q) (0, 0) _ [some (.ref 20), some (.int x1), some (.int 0), none] [] _
  refine go_iconst dX9_present_2 (v := 0) (by decide) ?_
  refine go_istore_n dX9_present_3 (Nat.le_of_ble_eq_true rfl) ?_
  show sk_Go Γ (sk_M Γ m_X9_present Q) (0, 0) _ [some (.ref 20), some (.int x1), some (.int 0), some (.int 0)] [] _
  exact l1
theorem k_X9_present_4 {x1 x2 x3 : Int32} {hi : Nat → Nat → Int32}
    (l1 : (31 : Int32) ≤ x3 → Q (some (.int x2)) (hi, sk_hr rr, sk_ks ++ ex))
    (l2 : ¬ (31 : Int32) ≤ x3 → sk_Ct Γ m_X9_cell [.int x1, .int x3] (hi, sk_hr rr, sk_ks ++ ex) (fun r h' => sk_Go Γ (sk_M Γ m_X9_present Q) (0, 0) 20 [some (.ref 20), some (.int x1), some (.int x2), some (.int x3)] (r.toList ++ [.ref 21, .int x2]) h')) :
    sk_Go Γ (sk_M Γ m_X9_present Q) (0, 0) 4 [some (.ref 20), some (.int x1), some (.int x2), some (.int x3)] [] (hi, sk_hr rr, sk_ks ++ ex) := by
  refine go_iload_n dX9_present_4 rfl ?_
  refine go_bipush dX9_present_5 (v := 31) (by decide) ?_
  refine go_icmp_ge (tgt := 37) dX9_present_7 (by decide) (fun c1 => ?_) (fun c1 => ?_)
  · refine go_iload_n dX9_present_37 rfl ?_
    exact go_iret (μ := m_X9_present) dX9_present_38 rfl (Nat.le_of_ble_eq_true rfl) (Nat.le_of_ble_eq_true rfl) (l1 c1)
  · refine go_iload_n dX9_present_10 rfl ?_
    refine go_aload_n dX9_present_11 rfl ?_
    refine go_getR dX9_present_12 fl_X9_7 rfl rfl (show _ = some 21 from rfl) ?_
    refine go_iload_n dX9_present_15 rfl ?_
    refine go_iload_n dX9_present_16 rfl ?_
    refine go_callS (μ := m_X9_cell) (n := 20) [.int x1, .int x3] dX9_present_17 ok_X9_cell ml_X9_95 wx_X9_cell rfl (Nat.le_of_ble_eq_true rfl) ⟨Nat.le_of_ble_eq_true rfl, Nat.le_of_ble_eq_true rfl⟩ ⟨Nat.le_of_ble_eq_true rfl, Nat.le_of_ble_eq_true rfl⟩ rfl ?_
    exact (l2 c1)
theorem k_X9_present_20 {x1 x2 x3 s2 s0 : Int32} {hi : Nat → Nat → Int32}
    (o1 : vp_in s2 18368)
    (l1 : (hi 21 (Int32.toNatClampNeg s2)) < (0 : Int32) → sk_Go Γ (sk_M Γ m_X9_present Q) (0, 0) 4 [some (.ref 20), some (.int x1), some (.int (s0 + 0)), some (.int (x3 + 1))] [] (hi, sk_hr rr, sk_ks ++ ex))
    (l2 : ¬ (hi 21 (Int32.toNatClampNeg s2)) < (0 : Int32) → sk_Go Γ (sk_M Γ m_X9_present Q) (0, 0) 4 [some (.ref 20), some (.int x1), some (.int (s0 + 1)), some (.int (x3 + 1))] [] (hi, sk_hr rr, sk_ks ++ ex)) :
    sk_Go Γ (sk_M Γ m_X9_present Q) (0, 0) 20 [some (.ref 20), some (.int x1), some (.int x2), some (.int x3)] [.int s2, .ref 21, .int s0] (hi, sk_hr rr, sk_ks ++ ex) := by
  refine go_iald dX9_present_20 (show _ = some (1, 18368) from rfl) o1 ?_
  refine go_if_lt (tgt := 28) dX9_present_21 (by decide) (fun c1 => ?_) (fun c1 => ?_)
  · refine go_iconst dX9_present_28 (v := 0) (by decide) ?_
    refine go_iadd dX9_present_29 ?_
    refine go_istore_n dX9_present_30 (Nat.le_of_ble_eq_true rfl) ?_
    show sk_Go Γ (sk_M Γ m_X9_present Q) (0, 0) _ [some (.ref 20), some (.int x1), some (.int (s0 + 0)), some (.int x3)] [] _
    refine go_iinc (v := x3 + 1) dX9_present_31 rfl rfl (Nat.le_of_ble_eq_true rfl) ?_
    show sk_Go Γ (sk_M Γ m_X9_present Q) (0, 0) _ [some (.ref 20), some (.int x1), some (.int (s0 + 0)), some (.int (x3 + 1))] [] _
    refine go_goto (tgt := 4) dX9_present_34 (by decide) ?_
    exact (l1 c1)
  · refine go_iconst dX9_present_24 (v := 1) (by decide) ?_
    refine go_goto (tgt := 29) dX9_present_25 (by decide) ?_
    refine go_iadd dX9_present_29 ?_
    refine go_istore_n dX9_present_30 (Nat.le_of_ble_eq_true rfl) ?_
    show sk_Go Γ (sk_M Γ m_X9_present Q) (0, 0) _ [some (.ref 20), some (.int x1), some (.int (s0 + 1)), some (.int x3)] [] _
    refine go_iinc (v := x3 + 1) dX9_present_31 rfl rfl (Nat.le_of_ble_eq_true rfl) ?_
    show sk_Go Γ (sk_M Γ m_X9_present Q) (0, 0) _ [some (.ref 20), some (.int x1), some (.int (s0 + 1)), some (.int (x3 + 1))] [] _
    refine go_goto (tgt := 4) dX9_present_34 (by decide) ?_
    exact (l2 c1)
theorem k_X9_as_0 {x1 x2 : Int32} {hi : Nat → Nat → Int32}
    (o1 : vp_in (x1 + 1) 18368)
    (o2 : ¬ x2 = (0 : Int32) → ¬ (hi 21 (Int32.toNatClampNeg (x1 + 1))) = (1 : Int32) → vp_in x1 18368)
    (l1 : ¬ x2 = (0 : Int32) → ¬ (hi 21 (Int32.toNatClampNeg (x1 + 1))) = (1 : Int32) → Q (some (.int (hi 21 (Int32.toNatClampNeg x1)))) (hi, sk_hr rr, sk_ks ++ ex))
    (l2 : ¬ x2 = (0 : Int32) → (hi 21 (Int32.toNatClampNeg (x1 + 1))) = (1 : Int32) → Q (some (.int 1000)) (hi, sk_hr rr, sk_ks ++ ex))
    (o3 : x2 = (0 : Int32) → ¬ (hi 21 (Int32.toNatClampNeg (x1 + 1))) = (2 : Int32) → vp_in x1 18368)
    (l3 : x2 = (0 : Int32) → ¬ (hi 21 (Int32.toNatClampNeg (x1 + 1))) = (2 : Int32) → Q (some (.int (hi 21 (Int32.toNatClampNeg x1)))) (hi, sk_hr rr, sk_ks ++ ex))
    (l4 : x2 = (0 : Int32) → (hi 21 (Int32.toNatClampNeg (x1 + 1))) = (2 : Int32) → Q (some (.int (-1))) (hi, sk_hr rr, sk_ks ++ ex)) :
    sk_Go Γ (sk_M Γ m_X9_as Q) (0, 0) 0 [some (.ref 20), some (.int x1), some (.int x2), none] [] (hi, sk_hr rr, sk_ks ++ ex) := by
  refine go_aload_n dX9_as_0 rfl ?_
  refine go_getR dX9_as_1 fl_X9_7 rfl rfl (show _ = some 21 from rfl) ?_
  refine go_iload_n dX9_as_4 rfl ?_
  refine go_iconst dX9_as_5 (v := 1) (by decide) ?_
  refine go_iadd dX9_as_6 ?_
  refine go_iald dX9_as_7 (show _ = some (1, 18368) from rfl) o1 ?_
  refine go_istore_n dX9_as_8 (Nat.le_of_ble_eq_true rfl) ?_
  show sk_Go Γ (sk_M Γ m_X9_as Q) (0, 0) _ [some (.ref 20), some (.int x1), some (.int x2), some (.int (hi 21 (Int32.toNatClampNeg (x1 + 1))))] [] _
  refine go_iload_n dX9_as_9 rfl ?_
  refine go_if_ne (tgt := 22) dX9_as_10 (by decide) (fun c1 => ?_) (fun c1 => ?_)
  · refine go_iload_n dX9_as_22 rfl ?_
    refine go_if_eq (tgt := 37) dX9_as_23 (by decide) (fun c0 => absurd c0 c1) (fun _ => ?_)
    refine go_iload_n dX9_as_26 rfl ?_
    refine go_iconst dX9_as_27 (v := 1) (by decide) ?_
    refine go_icmp_ne (tgt := 37) dX9_as_28 (by decide) (fun c2 => ?_) (fun c2 => ?_)
    · refine go_aload_n dX9_as_37 rfl ?_
      refine go_getR dX9_as_38 fl_X9_7 rfl rfl (show _ = some 21 from rfl) ?_
      refine go_iload_n dX9_as_41 rfl ?_
      refine go_iald dX9_as_42 (show _ = some (1, 18368) from rfl) (o2 c1 c2) ?_
      exact go_iret (μ := m_X9_as) dX9_as_43 rfl (Nat.le_of_ble_eq_true rfl) (Nat.le_of_ble_eq_true rfl) (l1 c1 c2)
    · refine go_sipush dX9_as_31 (v := 1000) (by decide) ?_
      refine go_goto (tgt := 43) dX9_as_34 (by decide) ?_
      exact go_iret (μ := m_X9_as) dX9_as_43 rfl (Nat.le_of_ble_eq_true rfl) (Nat.le_of_ble_eq_true rfl) (l2 c1 c2)
  · refine go_iload_n dX9_as_13 rfl ?_
    refine go_iconst dX9_as_14 (v := 2) (by decide) ?_
    refine go_icmp_ne (tgt := 22) dX9_as_15 (by decide) (fun c2 => ?_) (fun c2 => ?_)
    · refine go_iload_n dX9_as_22 rfl ?_
      refine go_if_eq (tgt := 37) dX9_as_23 (by decide) (fun _ => ?_) (fun c0 => absurd c1 c0)
      refine go_aload_n dX9_as_37 rfl ?_
      refine go_getR dX9_as_38 fl_X9_7 rfl rfl (show _ = some 21 from rfl) ?_
      refine go_iload_n dX9_as_41 rfl ?_
      refine go_iald dX9_as_42 (show _ = some (1, 18368) from rfl) (o3 c1 c2) ?_
      exact go_iret (μ := m_X9_as) dX9_as_43 rfl (Nat.le_of_ble_eq_true rfl) (Nat.le_of_ble_eq_true rfl) (l3 c1 c2)
    · refine go_iconst dX9_as_18 (v := (-1)) (by decide) ?_
      refine go_goto (tgt := 43) dX9_as_19 (by decide) ?_
      exact go_iret (μ := m_X9_as) dX9_as_43 rfl (Nat.le_of_ble_eq_true rfl) (Nat.le_of_ble_eq_true rfl) (l4 c1 c2)
theorem k_X9_middle_0 {x1 x2 : Int32} {hi : Nat → Nat → Int32}
    (l1 : sk_Ct Γ m_X9_isIn [.int x1, .int 0, .int 23] (hi, sk_hr rr, sk_ks ++ ex) (fun r h' => sk_Go Γ (sk_M Γ m_X9_middle Q) (0, 0) 7 [some (.ref 20), some (.int x1), some (.int x2), none, none, none, none, none] (r.toList ++ []) h')) :
    sk_Go Γ (sk_M Γ m_X9_middle Q) (0, 0) 0 [some (.ref 20), some (.int x1), some (.int x2), none, none, none, none, none] [] (hi, sk_hr rr, sk_ks ++ ex) := by
  refine go_iload_n dX9_middle_0 rfl ?_
  refine go_iconst dX9_middle_1 (v := 0) (by decide) ?_
  refine go_bipush dX9_middle_2 (v := 23) (by decide) ?_
  refine go_callS (μ := m_X9_isIn) (n := 7) [.int x1, .int 0, .int 23] dX9_middle_4 ok_X9_isIn ml_X9_32 wx_X9_isIn rfl (Nat.le_of_ble_eq_true rfl) ⟨Nat.le_of_ble_eq_true rfl, Nat.le_of_ble_eq_true rfl⟩ ⟨Nat.le_of_ble_eq_true rfl, Nat.le_of_ble_eq_true rfl⟩ rfl ?_
  exact l1
theorem k_X9_middle_7 {x1 x2 s0 : Int32} {hi : Nat → Nat → Int32}
    (l1 : s0 = (0 : Int32) → Q (some (.int (-2))) (hi, sk_hr rr, sk_ks ++ ex))
    (l2 : ¬ s0 = (0 : Int32) → sk_Ct Γ m_X9_isIn [.int x2, .int 0, .int 2] (hi, sk_hr rr, sk_ks ++ ex) (fun r h' => sk_Go Γ (sk_M Γ m_X9_middle Q) (0, 0) 16 [some (.ref 20), some (.int x1), some (.int x2), none, none, none, none, none] (r.toList ++ []) h')) :
    sk_Go Γ (sk_M Γ m_X9_middle Q) (0, 0) 7 [some (.ref 20), some (.int x1), some (.int x2), none, none, none, none, none] [.int s0] (hi, sk_hr rr, sk_ks ++ ex) := by
  refine go_if_eq (tgt := 19) dX9_middle_7 (by decide) (fun c1 => ?_) (fun c1 => ?_)
  · refine go_bipush dX9_middle_19 (v := (-2)) (by decide) ?_
    exact go_iret (μ := m_X9_middle) dX9_middle_21 rfl (Nat.le_of_ble_eq_true rfl) (Nat.le_of_ble_eq_true rfl) (l1 c1)
  · refine go_iload_n dX9_middle_10 rfl ?_
    refine go_iconst dX9_middle_11 (v := 0) (by decide) ?_
    refine go_iconst dX9_middle_12 (v := 2) (by decide) ?_
    refine go_callS (μ := m_X9_isIn) (n := 16) [.int x2, .int 0, .int 2] dX9_middle_13 ok_X9_isIn ml_X9_32 wx_X9_isIn rfl (Nat.le_of_ble_eq_true rfl) ⟨Nat.le_of_ble_eq_true rfl, Nat.le_of_ble_eq_true rfl⟩ ⟨Nat.le_of_ble_eq_true rfl, Nat.le_of_ble_eq_true rfl⟩ rfl ?_
    exact (l2 c1)
theorem k_X9_middle_16 {x1 x2 s0 : Int32} {hi : Nat → Nat → Int32}
    (l1 : ¬ s0 = (0 : Int32) → sk_Ct Γ m_X9_present [.ref 20, .int x1] (hi, sk_hr rr, sk_ks ++ ex) (fun r h' => sk_Go Γ (sk_M Γ m_X9_middle Q) (0, 0) 27 [some (.ref 20), some (.int x1), some (.int x2), none, none, none, none, none] (r.toList ++ []) h'))
    (l2 : s0 = (0 : Int32) → Q (some (.int (-2))) (hi, sk_hr rr, sk_ks ++ ex)) :
    sk_Go Γ (sk_M Γ m_X9_middle Q) (0, 0) 16 [some (.ref 20), some (.int x1), some (.int x2), none, none, none, none, none] [.int s0] (hi, sk_hr rr, sk_ks ++ ex) := by
  refine go_if_ne (tgt := 22) dX9_middle_16 (by decide) (fun c1 => ?_) (fun c1 => ?_)
  · refine go_aload_n dX9_middle_22 rfl ?_
    refine go_iload_n dX9_middle_23 rfl ?_
    refine go_callV (μ := m_X9_present) (n := 27) (T := TX9) (N := 10) [.int x1] dX9_middle_24 ok_X9_present ml_X9_105 wx_X9_present wl_X9_present (show _ = some (0, 8) from rfl) rfl rfl (Nat.le_of_ble_eq_true rfl) ⟨Nat.le_of_ble_eq_true rfl, Nat.le_of_ble_eq_true rfl⟩ ⟨Nat.le_of_ble_eq_true rfl, Nat.le_of_ble_eq_true rfl⟩ rfl ?_
    exact (l1 c1)
  · refine go_bipush dX9_middle_19 (v := (-2)) (by decide) ?_
    exact go_iret (μ := m_X9_middle) dX9_middle_21 rfl (Nat.le_of_ble_eq_true rfl) (Nat.le_of_ble_eq_true rfl) (l2 c1)
theorem k_X9_middle_27 {x1 x2 s0 : Int32} {hi : Nat → Nat → Int32}
    (l1 : ¬ x2 = (2 : Int32) → ¬ s0 = (0 : Int32) → sk_Go Γ (sk_M Γ m_X9_middle Q) (0, 0) 52 [some (.ref 20), some (.int x1), some (.int x2), some (.int s0), some (.int ((s0 - 1) / 2)), some (.int (-1)), none, none] [] (hi, sk_hr rr, sk_ks ++ ex))
    (l2 : ¬ x2 = (2 : Int32) → s0 = (0 : Int32) → Q (some (.int (-2))) (hi, sk_hr rr, sk_ks ++ ex))
    (l3 : x2 = (2 : Int32) → Q (some (.int s0)) (hi, sk_hr rr, sk_ks ++ ex)) :
    sk_Go Γ (sk_M Γ m_X9_middle Q) (0, 0) 27 [some (.ref 20), some (.int x1), some (.int x2), none, none, none, none, none] [.int s0] (hi, sk_hr rr, sk_ks ++ ex) := by
  refine go_istore_n dX9_middle_27 (Nat.le_of_ble_eq_true rfl) ?_
  show sk_Go Γ (sk_M Γ m_X9_middle Q) (0, 0) _ [some (.ref 20), some (.int x1), some (.int x2), some (.int s0), none, none, none, none] [] _
  refine go_iload_n dX9_middle_28 rfl ?_
  refine go_iconst dX9_middle_29 (v := 2) (by decide) ?_
  refine go_icmp_ne (tgt := 35) dX9_middle_30 (by decide) (fun c1 => ?_) (fun c1 => ?_)
  · refine go_iload_n dX9_middle_35 rfl ?_
    refine go_if_ne (tgt := 42) dX9_middle_36 (by decide) (fun c2 => ?_) (fun c2 => ?_)
    · refine go_iload_n dX9_middle_42 rfl ?_
      refine go_iconst dX9_middle_43 (v := 1) (by decide) ?_
      refine go_isub dX9_middle_44 ?_
      refine go_iconst dX9_middle_45 (v := 2) (by decide) ?_
      refine go_idiv dX9_middle_46 (by decide) ?_
      refine go_istore dX9_middle_47 (Nat.le_of_ble_eq_true rfl) ?_
      show sk_Go Γ (sk_M Γ m_X9_middle Q) (0, 0) _ [some (.ref 20), some (.int x1), some (.int x2), some (.int s0), some (.int ((s0 - 1) / 2)), none, none, none] [] _
      refine go_iconst dX9_middle_49 (v := (-1)) (by decide) ?_
      refine go_istore dX9_middle_50 (Nat.le_of_ble_eq_true rfl) ?_
      show sk_Go Γ (sk_M Γ m_X9_middle Q) (0, 0) _ [some (.ref 20), some (.int x1), some (.int x2), some (.int s0), some (.int ((s0 - 1) / 2)), some (.int (-1)), none, none] [] _
      exact (l1 c1 c2)
    · refine go_bipush dX9_middle_39 (v := (-2)) (by decide) ?_
      exact go_iret (μ := m_X9_middle) dX9_middle_41 rfl (Nat.le_of_ble_eq_true rfl) (Nat.le_of_ble_eq_true rfl) (l2 c1 c2)
  · refine go_iload_n dX9_middle_33 rfl ?_
    exact go_iret (μ := m_X9_middle) dX9_middle_34 rfl (Nat.le_of_ble_eq_true rfl) (Nat.le_of_ble_eq_true rfl) (l3 c1)
theorem k_X9_middle_52 {x1 x2 x3 x4 x5 : Int32} {hi : Nat → Nat → Int32}
    (l1 : (1000 : Int32) < x5 → Q (some (.int (-2))) (hi, sk_hr rr, sk_ks ++ ex))
    (l2 : ¬ (1000 : Int32) < x5 → sk_Go Γ (sk_M Γ m_X9_middle Q) (0, 0) 66 [some (.ref 20), some (.int x1), some (.int x2), some (.int x3), some (.int x4), some (.int x5), some (.int 0), some (.int 0)] [] (hi, sk_hr rr, sk_ks ++ ex)) :
    sk_Go Γ (sk_M Γ m_X9_middle Q) (0, 0) 52 [some (.ref 20), some (.int x1), some (.int x2), some (.int x3), some (.int x4), some (.int x5), none, none] [] (hi, sk_hr rr, sk_ks ++ ex) := by
  refine go_iload dX9_middle_52 rfl ?_
  refine go_sipush dX9_middle_54 (v := 1000) (by decide) ?_
  refine go_icmp_gt (tgt := 144) dX9_middle_57 (by decide) (fun c1 => ?_) (fun c1 => ?_)
  · refine go_bipush dX9_middle_144 (v := (-2)) (by decide) ?_
    exact go_iret (μ := m_X9_middle) dX9_middle_146 rfl (Nat.le_of_ble_eq_true rfl) (Nat.le_of_ble_eq_true rfl) (l1 c1)
  · refine go_iconst dX9_middle_60 (v := 0) (by decide) ?_
    refine go_istore dX9_middle_61 (Nat.le_of_ble_eq_true rfl) ?_
    show sk_Go Γ (sk_M Γ m_X9_middle Q) (0, 0) _ [some (.ref 20), some (.int x1), some (.int x2), some (.int x3), some (.int x4), some (.int x5), some (.int 0), none] [] _
    refine go_iconst dX9_middle_63 (v := 0) (by decide) ?_
    refine go_istore dX9_middle_64 (Nat.le_of_ble_eq_true rfl) ?_
    show sk_Go Γ (sk_M Γ m_X9_middle Q) (0, 0) _ [some (.ref 20), some (.int x1), some (.int x2), some (.int x3), some (.int x4), some (.int x5), some (.int 0), some (.int 0)] [] _
    exact (l2 c1)
theorem k_X9_middle_66 {x1 x2 x3 x4 x5 x6 x7 : Int32} {hi : Nat → Nat → Int32}
    (l1 : (31 : Int32) ≤ x7 → x6 ≤ x4 → sk_Go Γ (sk_M Γ m_X9_middle Q) (0, 0) 52 [some (.ref 20), some (.int x1), some (.int x2), some (.int x3), some (.int x4), some (.int (x5 + 1)), none, none] [] (hi, sk_hr rr, sk_ks ++ ex))
    (l2 : (31 : Int32) ≤ x7 → ¬ x6 ≤ x4 → Q (some (.int x5)) (hi, sk_hr rr, sk_ks ++ ex))
    (l3 : ¬ (31 : Int32) ≤ x7 → sk_Ct Γ m_X9_cell [.int x1, .int x7] (hi, sk_hr rr, sk_ks ++ ex) (fun r h' => sk_Go Γ (sk_M Γ m_X9_middle Q) (0, 0) 85 [some (.ref 20), some (.int x1), some (.int x2), some (.int x3), some (.int x4), some (.int x5), some (.int x6), some (.int x7)] (r.toList ++ [.ref 21, .int x6]) h')) :
    sk_Go Γ (sk_M Γ m_X9_middle Q) (0, 0) 66 [some (.ref 20), some (.int x1), some (.int x2), some (.int x3), some (.int x4), some (.int x5), some (.int x6), some (.int x7)] [] (hi, sk_hr rr, sk_ks ++ ex) := by
  refine go_iload dX9_middle_66 rfl ?_
  refine go_bipush dX9_middle_68 (v := 31) (by decide) ?_
  refine go_icmp_ge (tgt := 128) dX9_middle_70 (by decide) (fun c1 => ?_) (fun c1 => ?_)
  · refine go_iload dX9_middle_128 rfl ?_
    refine go_iload dX9_middle_130 rfl ?_
    refine go_icmp_le (tgt := 138) dX9_middle_132 (by decide) (fun c2 => ?_) (fun c2 => ?_)
    · refine go_iinc (v := x5 + 1) dX9_middle_138 rfl rfl (Nat.le_of_ble_eq_true rfl) ?_
      show sk_Go Γ (sk_M Γ m_X9_middle Q) (0, 0) _ [some (.ref 20), some (.int x1), some (.int x2), some (.int x3), some (.int x4), some (.int (x5 + 1)), some (.int x6), some (.int x7)] [] _
      refine go_goto (tgt := 52) dX9_middle_141 (by decide) ?_
      exact (go_wk (l1 c1 c2) (show sk_le _ _ from (And.intro rfl (And.intro rfl (And.intro rfl (And.intro rfl (And.intro rfl (And.intro rfl trivial))))))))
    · refine go_iload dX9_middle_135 rfl ?_
      exact go_iret (μ := m_X9_middle) dX9_middle_137 rfl (Nat.le_of_ble_eq_true rfl) (Nat.le_of_ble_eq_true rfl) (l2 c1 c2)
  · refine go_iload dX9_middle_73 rfl ?_
    refine go_aload_n dX9_middle_75 rfl ?_
    refine go_getR dX9_middle_76 fl_X9_7 rfl rfl (show _ = some 21 from rfl) ?_
    refine go_iload_n dX9_middle_79 rfl ?_
    refine go_iload dX9_middle_80 rfl ?_
    refine go_callS (μ := m_X9_cell) (n := 85) [.int x1, .int x7] dX9_middle_82 ok_X9_cell ml_X9_95 wx_X9_cell rfl (Nat.le_of_ble_eq_true rfl) ⟨Nat.le_of_ble_eq_true rfl, Nat.le_of_ble_eq_true rfl⟩ ⟨Nat.le_of_ble_eq_true rfl, Nat.le_of_ble_eq_true rfl⟩ rfl ?_
    exact (l3 c1)
theorem k_X9_middle_85 {x1 x2 x3 x4 x5 x6 x7 s2 s0 : Int32} {hi : Nat → Nat → Int32}
    (o1 : vp_in s2 18368)
    (l1 : (hi 21 (Int32.toNatClampNeg s2)) < (0 : Int32) → sk_Go Γ (sk_M Γ m_X9_middle Q) (0, 0) 66 [some (.ref 20), some (.int x1), some (.int x2), some (.int x3), some (.int x4), some (.int x5), some (.int (s0 + 0)), some (.int (x7 + 1))] [] (hi, sk_hr rr, sk_ks ++ ex))
    (l2 : ¬ (hi 21 (Int32.toNatClampNeg s2)) < (0 : Int32) → sk_Ct Γ m_X9_cell [.int x1, .int x7] (hi, sk_hr rr, sk_ks ++ ex) (fun r h' => sk_Go Γ (sk_M Γ m_X9_middle Q) (0, 0) 96 [some (.ref 20), some (.int x1), some (.int x2), some (.int x3), some (.int x4), some (.int x5), some (.int x6), some (.int x7)] (r.toList ++ [.ref 20, .int s0]) h')) :
    sk_Go Γ (sk_M Γ m_X9_middle Q) (0, 0) 85 [some (.ref 20), some (.int x1), some (.int x2), some (.int x3), some (.int x4), some (.int x5), some (.int x6), some (.int x7)] [.int s2, .ref 21, .int s0] (hi, sk_hr rr, sk_ks ++ ex) := by
  refine go_iald dX9_middle_85 (show _ = some (1, 18368) from rfl) o1 ?_
  refine go_if_lt (tgt := 118) dX9_middle_86 (by decide) (fun c1 => ?_) (fun c1 => ?_)
  · refine go_iconst dX9_middle_118 (v := 0) (by decide) ?_
    refine go_iadd dX9_middle_119 ?_
    refine go_istore dX9_middle_120 (Nat.le_of_ble_eq_true rfl) ?_
    show sk_Go Γ (sk_M Γ m_X9_middle Q) (0, 0) _ [some (.ref 20), some (.int x1), some (.int x2), some (.int x3), some (.int x4), some (.int x5), some (.int (s0 + 0)), some (.int x7)] [] _
    refine go_iinc (v := x7 + 1) dX9_middle_122 rfl rfl (Nat.le_of_ble_eq_true rfl) ?_
    show sk_Go Γ (sk_M Γ m_X9_middle Q) (0, 0) _ [some (.ref 20), some (.int x1), some (.int x2), some (.int x3), some (.int x4), some (.int x5), some (.int (s0 + 0)), some (.int (x7 + 1))] [] _
    refine go_goto (tgt := 66) dX9_middle_125 (by decide) ?_
    exact (l1 c1)
  · refine go_aload_n dX9_middle_89 rfl ?_
    refine go_iload_n dX9_middle_90 rfl ?_
    refine go_iload dX9_middle_91 rfl ?_
    refine go_callS (μ := m_X9_cell) (n := 96) [.int x1, .int x7] dX9_middle_93 ok_X9_cell ml_X9_95 wx_X9_cell rfl (Nat.le_of_ble_eq_true rfl) ⟨Nat.le_of_ble_eq_true rfl, Nat.le_of_ble_eq_true rfl⟩ ⟨Nat.le_of_ble_eq_true rfl, Nat.le_of_ble_eq_true rfl⟩ rfl ?_
    exact (l2 c1)
theorem k_X9_middle_96 {x1 x2 x3 x4 x5 x6 x7 s2 s0 : Int32} {hi : Nat → Nat → Int32}
    (l1 : ¬ x2 = (1 : Int32) → sk_Ct Γ m_X9_as [.ref 20, .int s2, .int 0] (hi, sk_hr rr, sk_ks ++ ex) (fun r h' => sk_Go Γ (sk_M Γ m_X9_middle Q) (0, 0) 109 [some (.ref 20), some (.int x1), some (.int x2), some (.int x3), some (.int x4), some (.int x5), some (.int x6), some (.int x7)] (r.toList ++ [.int s0]) h'))
    (l2 : x2 = (1 : Int32) → sk_Ct Γ m_X9_as [.ref 20, .int s2, .int 1] (hi, sk_hr rr, sk_ks ++ ex) (fun r h' => sk_Go Γ (sk_M Γ m_X9_middle Q) (0, 0) 109 [some (.ref 20), some (.int x1), some (.int x2), some (.int x3), some (.int x4), some (.int x5), some (.int x6), some (.int x7)] (r.toList ++ [.int s0]) h')) :
    sk_Go Γ (sk_M Γ m_X9_middle Q) (0, 0) 96 [some (.ref 20), some (.int x1), some (.int x2), some (.int x3), some (.int x4), some (.int x5), some (.int x6), some (.int x7)] [.int s2, .ref 20, .int s0] (hi, sk_hr rr, sk_ks ++ ex) := by
  refine go_iload_n dX9_middle_96 rfl ?_
  refine go_iconst dX9_middle_97 (v := 1) (by decide) ?_
  refine go_icmp_ne (tgt := 105) dX9_middle_98 (by decide) (fun c1 => ?_) (fun c1 => ?_)
  · refine go_iconst dX9_middle_105 (v := 0) (by decide) ?_
    refine go_callV (μ := m_X9_as) (n := 109) (T := TX9) (N := 10) [.int s2, .int 0] dX9_middle_106 ok_X9_as ml_X9_108 wx_X9_as wl_X9_as (show _ = some (0, 8) from rfl) rfl rfl (Nat.le_of_ble_eq_true rfl) ⟨Nat.le_of_ble_eq_true rfl, Nat.le_of_ble_eq_true rfl⟩ ⟨Nat.le_of_ble_eq_true rfl, Nat.le_of_ble_eq_true rfl⟩ rfl ?_
    exact (l1 c1)
  · refine go_iconst dX9_middle_101 (v := 1) (by decide) ?_
    refine go_goto (tgt := 106) dX9_middle_102 (by decide) ?_
    refine go_callV (μ := m_X9_as) (n := 109) (T := TX9) (N := 10) [.int s2, .int 1] dX9_middle_106 ok_X9_as ml_X9_108 wx_X9_as wl_X9_as (show _ = some (0, 8) from rfl) rfl rfl (Nat.le_of_ble_eq_true rfl) ⟨Nat.le_of_ble_eq_true rfl, Nat.le_of_ble_eq_true rfl⟩ ⟨Nat.le_of_ble_eq_true rfl, Nat.le_of_ble_eq_true rfl⟩ rfl ?_
    exact (l2 c1)
theorem k_X9_middle_109 {x1 x2 x3 x4 x5 x6 x7 s1 s0 : Int32} {hi : Nat → Nat → Int32}
    (l1 : x5 < s1 → sk_Go Γ (sk_M Γ m_X9_middle Q) (0, 0) 66 [some (.ref 20), some (.int x1), some (.int x2), some (.int x3), some (.int x4), some (.int x5), some (.int (s0 + 0)), some (.int (x7 + 1))] [] (hi, sk_hr rr, sk_ks ++ ex))
    (l2 : ¬ x5 < s1 → sk_Go Γ (sk_M Γ m_X9_middle Q) (0, 0) 66 [some (.ref 20), some (.int x1), some (.int x2), some (.int x3), some (.int x4), some (.int x5), some (.int (s0 + 1)), some (.int (x7 + 1))] [] (hi, sk_hr rr, sk_ks ++ ex)) :
    sk_Go Γ (sk_M Γ m_X9_middle Q) (0, 0) 109 [some (.ref 20), some (.int x1), some (.int x2), some (.int x3), some (.int x4), some (.int x5), some (.int x6), some (.int x7)] [.int s1, .int s0] (hi, sk_hr rr, sk_ks ++ ex) := by
  refine go_iload dX9_middle_109 rfl ?_
  refine go_icmp_gt (tgt := 118) dX9_middle_111 (by decide) (fun c1 => ?_) (fun c1 => ?_)
  · refine go_iconst dX9_middle_118 (v := 0) (by decide) ?_
    refine go_iadd dX9_middle_119 ?_
    refine go_istore dX9_middle_120 (Nat.le_of_ble_eq_true rfl) ?_
    show sk_Go Γ (sk_M Γ m_X9_middle Q) (0, 0) _ [some (.ref 20), some (.int x1), some (.int x2), some (.int x3), some (.int x4), some (.int x5), some (.int (s0 + 0)), some (.int x7)] [] _
    refine go_iinc (v := x7 + 1) dX9_middle_122 rfl rfl (Nat.le_of_ble_eq_true rfl) ?_
    show sk_Go Γ (sk_M Γ m_X9_middle Q) (0, 0) _ [some (.ref 20), some (.int x1), some (.int x2), some (.int x3), some (.int x4), some (.int x5), some (.int (s0 + 0)), some (.int (x7 + 1))] [] _
    refine go_goto (tgt := 66) dX9_middle_125 (by decide) ?_
    exact (l1 c1)
  · refine go_iconst dX9_middle_114 (v := 1) (by decide) ?_
    refine go_goto (tgt := 119) dX9_middle_115 (by decide) ?_
    refine go_iadd dX9_middle_119 ?_
    refine go_istore dX9_middle_120 (Nat.le_of_ble_eq_true rfl) ?_
    show sk_Go Γ (sk_M Γ m_X9_middle Q) (0, 0) _ [some (.ref 20), some (.int x1), some (.int x2), some (.int x3), some (.int x4), some (.int x5), some (.int (s0 + 1)), some (.int x7)] [] _
    refine go_iinc (v := x7 + 1) dX9_middle_122 rfl rfl (Nat.le_of_ble_eq_true rfl) ?_
    show sk_Go Γ (sk_M Γ m_X9_middle Q) (0, 0) _ [some (.ref 20), some (.int x1), some (.int x2), some (.int x3), some (.int x4), some (.int x5), some (.int (s0 + 1)), some (.int (x7 + 1))] [] _
    refine go_goto (tgt := 66) dX9_middle_125 (by decide) ?_
    exact (l2 c1)
theorem k_X9_root_0 {x0 : Int64} {hi : Nat → Nat → Int32}
    (l1 : sk_Go Γ (sk_M Γ m_X9_root Q) (0, 0) 7 [some (.long x0), none, some (.long (0 : Int64)), none, some (.long (40000000 : Int64)), none, none, none] [] (hi, sk_hr rr, sk_ks ++ ex)) :
    sk_Go Γ (sk_M Γ m_X9_root Q) (0, 0) 0 [some (.long x0), none, none, none, none, none, none, none] [] (hi, sk_hr rr, sk_ks ++ ex) := by
  refine go_lconst dX9_root_0 (v := 0) (by decide) ?_
  refine go_lstore_n dX9_root_1 (Nat.le_of_ble_eq_true rfl) ?_
  show sk_Go Γ (sk_M Γ m_X9_root Q) (0, 0) _ [some (.long x0), none, some (.long (0 : Int64)), none, none, none, none, none] [] _
  refine go_ldc2 dX9_root_2 kc_X9_112 ?_
  refine go_lstore dX9_root_5 (Nat.le_of_ble_eq_true rfl) ?_
  show sk_Go Γ (sk_M Γ m_X9_root Q) (0, 0) _ [some (.long x0), none, some (.long (0 : Int64)), none, some (.long (40000000 : Int64)), none, none, none] [] _
  exact l1
theorem k_X9_root_7 {x0 x2 x4 : Int64} {hi : Nat → Nat → Int32}
    (l1 : (0 : Int32) ≤ (lg_cmp x2 x4) → Q (some (.long x2)) (hi, sk_hr rr, sk_ks ++ ex))
    (l2 : ¬ (0 : Int32) ≤ (lg_cmp x2 x4) → (0 : Int32) < (lg_cmp ((((x2 + x4) + (1 : Int64)) / (2 : Int64)) * (((x2 + x4) + (1 : Int64)) / (2 : Int64))) x0) → sk_Go Γ (sk_M Γ m_X9_root Q) (0, 0) 7 [some (.long x0), none, some (.long x2), none, some (.long ((((x2 + x4) + (1 : Int64)) / (2 : Int64)) - (1 : Int64))), none, none, none] [] (hi, sk_hr rr, sk_ks ++ ex))
    (l3 : ¬ (0 : Int32) ≤ (lg_cmp x2 x4) → ¬ (0 : Int32) < (lg_cmp ((((x2 + x4) + (1 : Int64)) / (2 : Int64)) * (((x2 + x4) + (1 : Int64)) / (2 : Int64))) x0) → sk_Go Γ (sk_M Γ m_X9_root Q) (0, 0) 7 [some (.long x0), none, some (.long (((x2 + x4) + (1 : Int64)) / (2 : Int64))), none, some (.long x4), none, none, none] [] (hi, sk_hr rr, sk_ks ++ ex)) :
    sk_Go Γ (sk_M Γ m_X9_root Q) (0, 0) 7 [some (.long x0), none, some (.long x2), none, some (.long x4), none, none, none] [] (hi, sk_hr rr, sk_ks ++ ex) := by
  refine go_lload_n dX9_root_7 rfl ?_
  refine go_lload dX9_root_8 rfl ?_
  refine go_lcmp dX9_root_10 ?_
  refine go_if_ge (tgt := 51) dX9_root_11 (by decide) (fun c1 => ?_) (fun c1 => ?_)
  · refine go_lload_n dX9_root_51 rfl ?_
    exact go_lret (μ := m_X9_root) dX9_root_52 rfl (Nat.le_of_ble_eq_true rfl) (Nat.le_of_ble_eq_true rfl) (l1 c1)
  · refine go_lload_n dX9_root_14 rfl ?_
    refine go_lload dX9_root_15 rfl ?_
    refine go_ladd dX9_root_17 ?_
    refine go_lconst dX9_root_18 (v := 1) (by decide) ?_
    refine go_ladd dX9_root_19 ?_
    refine go_ldc2 dX9_root_20 kc_X9_114 ?_
    refine go_ldiv dX9_root_23 (by decide) ?_
    refine go_lstore dX9_root_24 (Nat.le_of_ble_eq_true rfl) ?_
    show sk_Go Γ (sk_M Γ m_X9_root Q) (0, 0) _ [some (.long x0), none, some (.long x2), none, some (.long x4), none, some (.long (((x2 + x4) + (1 : Int64)) / (2 : Int64))), none] [] _
    refine go_lload dX9_root_26 rfl ?_
    refine go_lload dX9_root_28 rfl ?_
    refine go_lmul dX9_root_30 ?_
    refine go_lload_n dX9_root_31 rfl ?_
    refine go_lcmp dX9_root_32 ?_
    refine go_if_gt (tgt := 42) dX9_root_33 (by decide) (fun c2 => ?_) (fun c2 => ?_)
    · refine go_lload dX9_root_42 rfl ?_
      refine go_lconst dX9_root_44 (v := 1) (by decide) ?_
      refine go_lsub dX9_root_45 ?_
      refine go_lstore dX9_root_46 (Nat.le_of_ble_eq_true rfl) ?_
      show sk_Go Γ (sk_M Γ m_X9_root Q) (0, 0) _ [some (.long x0), none, some (.long x2), none, some (.long ((((x2 + x4) + (1 : Int64)) / (2 : Int64)) - (1 : Int64))), none, some (.long (((x2 + x4) + (1 : Int64)) / (2 : Int64))), none] [] _
      refine go_goto (tgt := 7) dX9_root_48 (by decide) ?_
      exact (go_wk (l2 c1 c2) (show sk_le _ _ from (And.intro rfl (And.intro rfl (And.intro rfl trivial)))))
    · refine go_lload dX9_root_36 rfl ?_
      refine go_lstore_n dX9_root_38 (Nat.le_of_ble_eq_true rfl) ?_
      show sk_Go Γ (sk_M Γ m_X9_root Q) (0, 0) _ [some (.long x0), none, some (.long (((x2 + x4) + (1 : Int64)) / (2 : Int64))), none, some (.long x4), none, some (.long (((x2 + x4) + (1 : Int64)) / (2 : Int64))), none] [] _
      refine go_goto (tgt := 48) dX9_root_39 (by decide) ?_
      refine go_goto (tgt := 7) dX9_root_48 (by decide) ?_
      exact (go_wk (l3 c1 c2) (show sk_le _ _ from (And.intro rfl (And.intro rfl (And.intro rfl trivial)))))
theorem k_X9_hops_0 {x1 x2 x3 x4 : Int32} {hi : Nat → Nat → Int32}
    (l1 : sk_Ct Γ m_X9_isIn [.int x1, .int 1, .int 20000] (hi, sk_hr rr, sk_ks ++ ex) (fun r h' => sk_Go Γ (sk_M Γ m_X9_hops Q) (0, 0) 8 [some (.ref 20), some (.int x1), some (.int x2), some (.int x3), some (.int x4), none, none, none, none] (r.toList ++ []) h')) :
    sk_Go Γ (sk_M Γ m_X9_hops Q) (0, 0) 0 [some (.ref 20), some (.int x1), some (.int x2), some (.int x3), some (.int x4), none, none, none, none] [] (hi, sk_hr rr, sk_ks ++ ex) := by
  refine go_iload_n dX9_hops_0 rfl ?_
  refine go_iconst dX9_hops_1 (v := 1) (by decide) ?_
  refine go_sipush dX9_hops_2 (v := 20000) (by decide) ?_
  refine go_callS (μ := m_X9_isIn) (n := 8) [.int x1, .int 1, .int 20000] dX9_hops_5 ok_X9_isIn ml_X9_32 wx_X9_isIn rfl (Nat.le_of_ble_eq_true rfl) ⟨Nat.le_of_ble_eq_true rfl, Nat.le_of_ble_eq_true rfl⟩ ⟨Nat.le_of_ble_eq_true rfl, Nat.le_of_ble_eq_true rfl⟩ rfl ?_
  exact l1
theorem k_X9_hops_8 {x1 x2 x3 x4 s0 : Int32} {hi : Nat → Nat → Int32}
    (l1 : s0 = (0 : Int32) → Q (some (.int (-1))) (hi, sk_hr rr, sk_ks ++ ex))
    (l2 : ¬ s0 = (0 : Int32) → sk_Ct Γ m_X9_isIn [.int x2, .int 1, .int 1000] (hi, sk_hr rr, sk_ks ++ ex) (fun r h' => sk_Go Γ (sk_M Γ m_X9_hops Q) (0, 0) 19 [some (.ref 20), some (.int x1), some (.int x2), some (.int x3), some (.int x4), none, none, none, none] (r.toList ++ []) h')) :
    sk_Go Γ (sk_M Γ m_X9_hops Q) (0, 0) 8 [some (.ref 20), some (.int x1), some (.int x2), some (.int x3), some (.int x4), none, none, none, none] [.int s0] (hi, sk_hr rr, sk_ks ++ ex) := by
  refine go_if_eq (tgt := 43) dX9_hops_8 (by decide) (fun c1 => ?_) (fun c1 => ?_)
  · refine go_iconst dX9_hops_43 (v := (-1)) (by decide) ?_
    exact go_iret (μ := m_X9_hops) dX9_hops_44 rfl (Nat.le_of_ble_eq_true rfl) (Nat.le_of_ble_eq_true rfl) (l1 c1)
  · refine go_iload_n dX9_hops_11 rfl ?_
    refine go_iconst dX9_hops_12 (v := 1) (by decide) ?_
    refine go_sipush dX9_hops_13 (v := 1000) (by decide) ?_
    refine go_callS (μ := m_X9_isIn) (n := 19) [.int x2, .int 1, .int 1000] dX9_hops_16 ok_X9_isIn ml_X9_32 wx_X9_isIn rfl (Nat.le_of_ble_eq_true rfl) ⟨Nat.le_of_ble_eq_true rfl, Nat.le_of_ble_eq_true rfl⟩ ⟨Nat.le_of_ble_eq_true rfl, Nat.le_of_ble_eq_true rfl⟩ rfl ?_
    exact (l2 c1)
theorem k_X9_hops_19 {x1 x2 x3 x4 s0 : Int32} {hi : Nat → Nat → Int32}
    (l1 : s0 = (0 : Int32) → Q (some (.int (-1))) (hi, sk_hr rr, sk_ks ++ ex))
    (l2 : ¬ s0 = (0 : Int32) → sk_Ct Γ m_X9_isIn [.int x3, .int 1, .int 1000] (hi, sk_hr rr, sk_ks ++ ex) (fun r h' => sk_Go Γ (sk_M Γ m_X9_hops Q) (0, 0) 30 [some (.ref 20), some (.int x1), some (.int x2), some (.int x3), some (.int x4), none, none, none, none] (r.toList ++ []) h')) :
    sk_Go Γ (sk_M Γ m_X9_hops Q) (0, 0) 19 [some (.ref 20), some (.int x1), some (.int x2), some (.int x3), some (.int x4), none, none, none, none] [.int s0] (hi, sk_hr rr, sk_ks ++ ex) := by
  refine go_if_eq (tgt := 43) dX9_hops_19 (by decide) (fun c1 => ?_) (fun c1 => ?_)
  · refine go_iconst dX9_hops_43 (v := (-1)) (by decide) ?_
    exact go_iret (μ := m_X9_hops) dX9_hops_44 rfl (Nat.le_of_ble_eq_true rfl) (Nat.le_of_ble_eq_true rfl) (l1 c1)
  · refine go_iload_n dX9_hops_22 rfl ?_
    refine go_iconst dX9_hops_23 (v := 1) (by decide) ?_
    refine go_sipush dX9_hops_24 (v := 1000) (by decide) ?_
    refine go_callS (μ := m_X9_isIn) (n := 30) [.int x3, .int 1, .int 1000] dX9_hops_27 ok_X9_isIn ml_X9_32 wx_X9_isIn rfl (Nat.le_of_ble_eq_true rfl) ⟨Nat.le_of_ble_eq_true rfl, Nat.le_of_ble_eq_true rfl⟩ ⟨Nat.le_of_ble_eq_true rfl, Nat.le_of_ble_eq_true rfl⟩ rfl ?_
    exact (l2 c1)
theorem k_X9_hops_30 {x1 x2 x3 x4 s0 : Int32} {hi : Nat → Nat → Int32}
    (l1 : s0 = (0 : Int32) → Q (some (.int (-1))) (hi, sk_hr rr, sk_ks ++ ex))
    (l2 : ¬ s0 = (0 : Int32) → sk_Ct Γ m_X9_isIn [.int x4, .int 1, .int 5] (hi, sk_hr rr, sk_ks ++ ex) (fun r h' => sk_Go Γ (sk_M Γ m_X9_hops Q) (0, 0) 40 [some (.ref 20), some (.int x1), some (.int x2), some (.int x3), some (.int x4), none, none, none, none] (r.toList ++ []) h')) :
    sk_Go Γ (sk_M Γ m_X9_hops Q) (0, 0) 30 [some (.ref 20), some (.int x1), some (.int x2), some (.int x3), some (.int x4), none, none, none, none] [.int s0] (hi, sk_hr rr, sk_ks ++ ex) := by
  refine go_if_eq (tgt := 43) dX9_hops_30 (by decide) (fun c1 => ?_) (fun c1 => ?_)
  · refine go_iconst dX9_hops_43 (v := (-1)) (by decide) ?_
    exact go_iret (μ := m_X9_hops) dX9_hops_44 rfl (Nat.le_of_ble_eq_true rfl) (Nat.le_of_ble_eq_true rfl) (l1 c1)
  · refine go_iload dX9_hops_33 rfl ?_
    refine go_iconst dX9_hops_35 (v := 1) (by decide) ?_
    refine go_iconst dX9_hops_36 (v := 5) (by decide) ?_
    refine go_callS (μ := m_X9_isIn) (n := 40) [.int x4, .int 1, .int 5] dX9_hops_37 ok_X9_isIn ml_X9_32 wx_X9_isIn rfl (Nat.le_of_ble_eq_true rfl) ⟨Nat.le_of_ble_eq_true rfl, Nat.le_of_ble_eq_true rfl⟩ ⟨Nat.le_of_ble_eq_true rfl, Nat.le_of_ble_eq_true rfl⟩ rfl ?_
    exact (l2 c1)
theorem k_X9_hops_40 {x1 x2 x3 x4 s0 : Int32} {hi : Nat → Nat → Int32}
    (o1 : ¬ s0 = (0 : Int32) → ¬ (((((4 : Int64) * (Int32.toInt64 x4)) * (Int32.toInt64 x4)) * (Int32.toInt64 x2)) * (Int32.toInt64 x2)) = 0)
    (l1 : ¬ s0 = (0 : Int32) → sk_Ct Γ m_X9_root [.long ((((Int32.toInt64 x3) * (Int32.toInt64 x3)) * (((Int32.toInt64 x1) * (Int32.toInt64 x1)) + (((((4 : Int64) * (Int32.toInt64 x4)) * (Int32.toInt64 x4)) * (Int32.toInt64 x2)) * (Int32.toInt64 x2)))) / (((((4 : Int64) * (Int32.toInt64 x4)) * (Int32.toInt64 x4)) * (Int32.toInt64 x2)) * (Int32.toInt64 x2)))] (hi, sk_hr rr, sk_ks ++ ex) (fun r h' => sk_Go Γ (sk_M Γ m_X9_hops Q) (0, 0) 88 [some (.ref 20), some (.int x1), some (.int x2), some (.int x3), some (.int x4), some (.long (((((4 : Int64) * (Int32.toInt64 x4)) * (Int32.toInt64 x4)) * (Int32.toInt64 x2)) * (Int32.toInt64 x2))), none, some (.long (((Int32.toInt64 x1) * (Int32.toInt64 x1)) + (((((4 : Int64) * (Int32.toInt64 x4)) * (Int32.toInt64 x4)) * (Int32.toInt64 x2)) * (Int32.toInt64 x2)))), none] (r.toList ++ []) h'))
    (l2 : s0 = (0 : Int32) → Q (some (.int (-1))) (hi, sk_hr rr, sk_ks ++ ex)) :
    sk_Go Γ (sk_M Γ m_X9_hops Q) (0, 0) 40 [some (.ref 20), some (.int x1), some (.int x2), some (.int x3), some (.int x4), none, none, none, none] [.int s0] (hi, sk_hr rr, sk_ks ++ ex) := by
  refine go_if_ne (tgt := 45) dX9_hops_40 (by decide) (fun c1 => ?_) (fun c1 => ?_)
  · refine go_ldc2 dX9_hops_45 kc_X9_116 ?_
    refine go_iload dX9_hops_48 rfl ?_
    refine go_i2l dX9_hops_50 ?_
    refine go_lmul dX9_hops_51 ?_
    refine go_iload dX9_hops_52 rfl ?_
    refine go_i2l dX9_hops_54 ?_
    refine go_lmul dX9_hops_55 ?_
    refine go_iload_n dX9_hops_56 rfl ?_
    refine go_i2l dX9_hops_57 ?_
    refine go_lmul dX9_hops_58 ?_
    refine go_iload_n dX9_hops_59 rfl ?_
    refine go_i2l dX9_hops_60 ?_
    refine go_lmul dX9_hops_61 ?_
    refine go_lstore dX9_hops_62 (Nat.le_of_ble_eq_true rfl) ?_
    show sk_Go Γ (sk_M Γ m_X9_hops Q) (0, 0) _ [some (.ref 20), some (.int x1), some (.int x2), some (.int x3), some (.int x4), some (.long (((((4 : Int64) * (Int32.toInt64 x4)) * (Int32.toInt64 x4)) * (Int32.toInt64 x2)) * (Int32.toInt64 x2))), none, none, none] [] _
    refine go_iload_n dX9_hops_64 rfl ?_
    refine go_i2l dX9_hops_65 ?_
    refine go_iload_n dX9_hops_66 rfl ?_
    refine go_i2l dX9_hops_67 ?_
    refine go_lmul dX9_hops_68 ?_
    refine go_lload dX9_hops_69 rfl ?_
    refine go_ladd dX9_hops_71 ?_
    refine go_lstore dX9_hops_72 (Nat.le_of_ble_eq_true rfl) ?_
    show sk_Go Γ (sk_M Γ m_X9_hops Q) (0, 0) _ [some (.ref 20), some (.int x1), some (.int x2), some (.int x3), some (.int x4), some (.long (((((4 : Int64) * (Int32.toInt64 x4)) * (Int32.toInt64 x4)) * (Int32.toInt64 x2)) * (Int32.toInt64 x2))), none, some (.long (((Int32.toInt64 x1) * (Int32.toInt64 x1)) + (((((4 : Int64) * (Int32.toInt64 x4)) * (Int32.toInt64 x4)) * (Int32.toInt64 x2)) * (Int32.toInt64 x2)))), none] [] _
    refine go_iload_n dX9_hops_74 rfl ?_
    refine go_i2l dX9_hops_75 ?_
    refine go_iload_n dX9_hops_76 rfl ?_
    refine go_i2l dX9_hops_77 ?_
    refine go_lmul dX9_hops_78 ?_
    refine go_lload dX9_hops_79 rfl ?_
    refine go_lmul dX9_hops_81 ?_
    refine go_lload dX9_hops_82 rfl ?_
    refine go_ldiv dX9_hops_84 (o1 c1) ?_
    refine go_callS (μ := m_X9_root) (n := 88) [.long ((((Int32.toInt64 x3) * (Int32.toInt64 x3)) * (((Int32.toInt64 x1) * (Int32.toInt64 x1)) + (((((4 : Int64) * (Int32.toInt64 x4)) * (Int32.toInt64 x4)) * (Int32.toInt64 x2)) * (Int32.toInt64 x2)))) / (((((4 : Int64) * (Int32.toInt64 x4)) * (Int32.toInt64 x4)) * (Int32.toInt64 x2)) * (Int32.toInt64 x2)))] dX9_hops_85 ok_X9_root ml_X9_118 wx_X9_root rfl (Nat.le_of_ble_eq_true rfl) ⟨Nat.le_of_ble_eq_true rfl, Nat.le_of_ble_eq_true rfl⟩ ⟨Nat.le_of_ble_eq_true rfl, Nat.le_of_ble_eq_true rfl⟩ rfl ?_
    exact (l1 c1)
  · refine go_iconst dX9_hops_43 (v := (-1)) (by decide) ?_
    exact go_iret (μ := m_X9_hops) dX9_hops_44 rfl (Nat.le_of_ble_eq_true rfl) (Nat.le_of_ble_eq_true rfl) (l2 c1)
theorem k_X9_hops_88 {x1 x2 x3 x4 : Int32} {x5 x7 s0 : Int64} {hi : Nat → Nat → Int32}
    (l1 : Q (some (.int (Int64.toInt32 s0))) (hi, sk_hr rr, sk_ks ++ ex)) :
    sk_Go Γ (sk_M Γ m_X9_hops Q) (0, 0) 88 [some (.ref 20), some (.int x1), some (.int x2), some (.int x3), some (.int x4), some (.long x5), none, some (.long x7), none] [.long s0] (hi, sk_hr rr, sk_ks ++ ex) := by
  refine go_l2i dX9_hops_88 ?_
  exact go_iret (μ := m_X9_hops) dX9_hops_89 rfl (Nat.le_of_ble_eq_true rfl) (Nat.le_of_ble_eq_true rfl) l1
theorem k_X9_fewest_0 {x1 x2 : Int32} {hi : Nat → Nat → Int32}
    (l1 : sk_Ct Γ m_X9_isIn [.int x1, .int 1, .int 20000] (hi, sk_hr rr, sk_ks ++ ex) (fun r h' => sk_Go Γ (sk_M Γ m_X9_fewest Q) (0, 0) 8 [some (.ref 20), some (.int x1), some (.int x2), none] (r.toList ++ []) h')) :
    sk_Go Γ (sk_M Γ m_X9_fewest Q) (0, 0) 0 [some (.ref 20), some (.int x1), some (.int x2), none] [] (hi, sk_hr rr, sk_ks ++ ex) := by
  refine go_iload_n dX9_fewest_0 rfl ?_
  refine go_iconst dX9_fewest_1 (v := 1) (by decide) ?_
  refine go_sipush dX9_fewest_2 (v := 20000) (by decide) ?_
  refine go_callS (μ := m_X9_isIn) (n := 8) [.int x1, .int 1, .int 20000] dX9_fewest_5 ok_X9_isIn ml_X9_32 wx_X9_isIn rfl (Nat.le_of_ble_eq_true rfl) ⟨Nat.le_of_ble_eq_true rfl, Nat.le_of_ble_eq_true rfl⟩ ⟨Nat.le_of_ble_eq_true rfl, Nat.le_of_ble_eq_true rfl⟩ rfl ?_
  exact l1
theorem k_X9_fewest_8 {x1 x2 s0 : Int32} {hi : Nat → Nat → Int32}
    (l1 : s0 = (0 : Int32) → Q (some (.int (-1))) (hi, sk_hr rr, sk_ks ++ ex))
    (l2 : ¬ s0 = (0 : Int32) → sk_Ct Γ m_X9_isIn [.int x2, .int 1, .int 20000] (hi, sk_hr rr, sk_ks ++ ex) (fun r h' => sk_Go Γ (sk_M Γ m_X9_fewest Q) (0, 0) 19 [some (.ref 20), some (.int x1), some (.int x2), none] (r.toList ++ []) h')) :
    sk_Go Γ (sk_M Γ m_X9_fewest Q) (0, 0) 8 [some (.ref 20), some (.int x1), some (.int x2), none] [.int s0] (hi, sk_hr rr, sk_ks ++ ex) := by
  refine go_if_eq (tgt := 22) dX9_fewest_8 (by decide) (fun c1 => ?_) (fun c1 => ?_)
  · refine go_iconst dX9_fewest_22 (v := (-1)) (by decide) ?_
    exact go_iret (μ := m_X9_fewest) dX9_fewest_23 rfl (Nat.le_of_ble_eq_true rfl) (Nat.le_of_ble_eq_true rfl) (l1 c1)
  · refine go_iload_n dX9_fewest_11 rfl ?_
    refine go_iconst dX9_fewest_12 (v := 1) (by decide) ?_
    refine go_sipush dX9_fewest_13 (v := 20000) (by decide) ?_
    refine go_callS (μ := m_X9_isIn) (n := 19) [.int x2, .int 1, .int 20000] dX9_fewest_16 ok_X9_isIn ml_X9_32 wx_X9_isIn rfl (Nat.le_of_ble_eq_true rfl) ⟨Nat.le_of_ble_eq_true rfl, Nat.le_of_ble_eq_true rfl⟩ ⟨Nat.le_of_ble_eq_true rfl, Nat.le_of_ble_eq_true rfl⟩ rfl ?_
    exact (l2 c1)
theorem k_X9_fewest_19 {x1 x2 s0 : Int32} {hi : Nat → Nat → Int32}
    (l1 : ¬ s0 = (0 : Int32) → sk_Go Γ (sk_M Γ m_X9_fewest Q) (0, 0) 26 [some (.ref 20), some (.int x1), some (.int x2), some (.int 1)] [] (hi, sk_hr rr, sk_ks ++ ex))
    (l2 : s0 = (0 : Int32) → Q (some (.int (-1))) (hi, sk_hr rr, sk_ks ++ ex)) :
    sk_Go Γ (sk_M Γ m_X9_fewest Q) (0, 0) 19 [some (.ref 20), some (.int x1), some (.int x2), none] [.int s0] (hi, sk_hr rr, sk_ks ++ ex) := by
  refine go_if_ne (tgt := 24) dX9_fewest_19 (by decide) (fun c1 => ?_) (fun c1 => ?_)
  · refine go_iconst dX9_fewest_24 (v := 1) (by decide) ?_
    refine go_istore_n dX9_fewest_25 (Nat.le_of_ble_eq_true rfl) ?_
    show sk_Go Γ (sk_M Γ m_X9_fewest Q) (0, 0) _ [some (.ref 20), some (.int x1), some (.int x2), some (.int 1)] [] _
    exact (l1 c1)
  · refine go_iconst dX9_fewest_22 (v := (-1)) (by decide) ?_
    exact go_iret (μ := m_X9_fewest) dX9_fewest_23 rfl (Nat.le_of_ble_eq_true rfl) (Nat.le_of_ble_eq_true rfl) (l2 c1)
theorem k_X9_fewest_26 {x1 x2 x3 : Int32} {hi : Nat → Nat → Int32}
    (l1 : (5 : Int32) < x3 → Q (some (.int (-1))) (hi, sk_hr rr, sk_ks ++ ex))
    (l2 : ¬ (5 : Int32) < x3 → (x3 * x2) < x1 → sk_Go Γ (sk_M Γ m_X9_fewest Q) (0, 0) 26 [some (.ref 20), some (.int x1), some (.int x2), some (.int (x3 + 1))] [] (hi, sk_hr rr, sk_ks ++ ex))
    (l3 : ¬ (5 : Int32) < x3 → ¬ (x3 * x2) < x1 → Q (some (.int x3)) (hi, sk_hr rr, sk_ks ++ ex)) :
    sk_Go Γ (sk_M Γ m_X9_fewest Q) (0, 0) 26 [some (.ref 20), some (.int x1), some (.int x2), some (.int x3)] [] (hi, sk_hr rr, sk_ks ++ ex) := by
  refine go_iload_n dX9_fewest_26 rfl ?_
  refine go_iconst dX9_fewest_27 (v := 5) (by decide) ?_
  refine go_icmp_gt (tgt := 46) dX9_fewest_28 (by decide) (fun c1 => ?_) (fun c1 => ?_)
  · refine go_iconst dX9_fewest_46 (v := (-1)) (by decide) ?_
    exact go_iret (μ := m_X9_fewest) dX9_fewest_47 rfl (Nat.le_of_ble_eq_true rfl) (Nat.le_of_ble_eq_true rfl) (l1 c1)
  · refine go_iload_n dX9_fewest_31 rfl ?_
    refine go_iload_n dX9_fewest_32 rfl ?_
    refine go_iload_n dX9_fewest_33 rfl ?_
    refine go_imul dX9_fewest_34 ?_
    refine go_icmp_gt (tgt := 40) dX9_fewest_35 (by decide) (fun c2 => ?_) (fun c2 => ?_)
    · refine go_iinc (v := x3 + 1) dX9_fewest_40 rfl rfl (Nat.le_of_ble_eq_true rfl) ?_
      show sk_Go Γ (sk_M Γ m_X9_fewest Q) (0, 0) _ [some (.ref 20), some (.int x1), some (.int x2), some (.int (x3 + 1))] [] _
      refine go_goto (tgt := 26) dX9_fewest_43 (by decide) ?_
      exact (l2 c1 c2)
    · refine go_iload_n dX9_fewest_38 rfl ?_
      exact go_iret (μ := m_X9_fewest) dX9_fewest_39 rfl (Nat.le_of_ble_eq_true rfl) (Nat.le_of_ble_eq_true rfl) (l3 c1 c2)
theorem k_X9_isSpot_0 {x0 x1 : Int32} {hi : Nat → Nat → Int32}
    (l1 : sk_Ct Γ m_X9_isIn [.int x0, .int 0, .int 200] (hi, sk_hr rr, sk_ks ++ ex) (fun r h' => sk_Go Γ (sk_M Γ m_X9_isSpot Q) (0, 0) 8 [some (.int x0), some (.int x1)] (r.toList ++ []) h')) :
    sk_Go Γ (sk_M Γ m_X9_isSpot Q) (0, 0) 0 [some (.int x0), some (.int x1)] [] (hi, sk_hr rr, sk_ks ++ ex) := by
  refine go_iload_n dX9_isSpot_0 rfl ?_
  refine go_iconst dX9_isSpot_1 (v := 0) (by decide) ?_
  refine go_sipush dX9_isSpot_2 (v := 200) (by decide) ?_
  refine go_callS (μ := m_X9_isIn) (n := 8) [.int x0, .int 0, .int 200] dX9_isSpot_5 ok_X9_isIn ml_X9_32 wx_X9_isIn rfl (Nat.le_of_ble_eq_true rfl) ⟨Nat.le_of_ble_eq_true rfl, Nat.le_of_ble_eq_true rfl⟩ ⟨Nat.le_of_ble_eq_true rfl, Nat.le_of_ble_eq_true rfl⟩ rfl ?_
  exact l1
theorem k_X9_isSpot_8 {x0 x1 s0 : Int32} {hi : Nat → Nat → Int32}
    (l1 : s0 = (0 : Int32) → Q (some (.int 0)) (hi, sk_hr rr, sk_ks ++ ex))
    (l2 : ¬ s0 = (0 : Int32) → sk_Ct Γ m_X9_isIn [.int x1, .int 0, .int 200] (hi, sk_hr rr, sk_ks ++ ex) (fun r h' => sk_Go Γ (sk_M Γ m_X9_isSpot Q) (0, 0) 19 [some (.int x0), some (.int x1)] (r.toList ++ []) h')) :
    sk_Go Γ (sk_M Γ m_X9_isSpot Q) (0, 0) 8 [some (.int x0), some (.int x1)] [.int s0] (hi, sk_hr rr, sk_ks ++ ex) := by
  refine go_if_eq (tgt := 26) dX9_isSpot_8 (by decide) (fun c1 => ?_) (fun c1 => ?_)
  · refine go_iconst dX9_isSpot_26 (v := 0) (by decide) ?_
    exact go_zret (μ := m_X9_isSpot) dX9_isSpot_27 rfl rfl (Nat.le_of_ble_eq_true rfl) (Nat.le_of_ble_eq_true rfl) (l1 c1)
  · refine go_iload_n dX9_isSpot_11 rfl ?_
    refine go_iconst dX9_isSpot_12 (v := 0) (by decide) ?_
    refine go_sipush dX9_isSpot_13 (v := 200) (by decide) ?_
    refine go_callS (μ := m_X9_isIn) (n := 19) [.int x1, .int 0, .int 200] dX9_isSpot_16 ok_X9_isIn ml_X9_32 wx_X9_isIn rfl (Nat.le_of_ble_eq_true rfl) ⟨Nat.le_of_ble_eq_true rfl, Nat.le_of_ble_eq_true rfl⟩ ⟨Nat.le_of_ble_eq_true rfl, Nat.le_of_ble_eq_true rfl⟩ rfl ?_
    exact (l2 c1)
theorem k_X9_isSpot_19 {x0 x1 s0 : Int32} {hi : Nat → Nat → Int32}
    (l1 : s0 = (0 : Int32) → Q (some (.int 0)) (hi, sk_hr rr, sk_ks ++ ex))
    (l2 : ¬ s0 = (0 : Int32) → Q (some (.int 1)) (hi, sk_hr rr, sk_ks ++ ex)) :
    sk_Go Γ (sk_M Γ m_X9_isSpot Q) (0, 0) 19 [some (.int x0), some (.int x1)] [.int s0] (hi, sk_hr rr, sk_ks ++ ex) := by
  refine go_if_eq (tgt := 26) dX9_isSpot_19 (by decide) (fun c1 => ?_) (fun c1 => ?_)
  · refine go_iconst dX9_isSpot_26 (v := 0) (by decide) ?_
    exact go_zret (μ := m_X9_isSpot) dX9_isSpot_27 rfl rfl (Nat.le_of_ble_eq_true rfl) (Nat.le_of_ble_eq_true rfl) (l1 c1)
  · refine go_iconst dX9_isSpot_22 (v := 1) (by decide) ?_
    refine go_goto (tgt := 27) dX9_isSpot_23 (by decide) ?_
    exact go_zret (μ := m_X9_isSpot) dX9_isSpot_27 rfl rfl (Nat.le_of_ble_eq_true rfl) (Nat.le_of_ble_eq_true rfl) (l2 c1)
theorem k_X9_stationAt_0 {x1 x2 : Int32} {hi : Nat → Nat → Int32}
    (l1 : sk_Go Γ (sk_M Γ m_X9_stationAt Q) (0, 0) 2 [some (.ref 20), some (.int x1), some (.int x2), some (.int 0)] [] (hi, sk_hr rr, sk_ks ++ ex)) :
    sk_Go Γ (sk_M Γ m_X9_stationAt Q) (0, 0) 0 [some (.ref 20), some (.int x1), some (.int x2), none] [] (hi, sk_hr rr, sk_ks ++ ex) := by
  refine go_iconst dX9_stationAt_0 (v := 0) (by decide) ?_
  refine go_istore_n dX9_stationAt_1 (Nat.le_of_ble_eq_true rfl) ?_
  show sk_Go Γ (sk_M Γ m_X9_stationAt Q) (0, 0) _ [some (.ref 20), some (.int x1), some (.int x2), some (.int 0)] [] _
  exact l1
theorem k_X9_stationAt_2 {x1 x2 x3 : Int32} {hi : Nat → Nat → Int32}
    (l1 : (hi 21 3) ≤ x3 → Q (some (.int (-1))) (hi, sk_hr rr, sk_ks ++ ex))
    (o1 : ¬ (hi 21 3) ≤ x3 → vp_in (4 + (3 * x3)) 18368)
    (l2 : ¬ (hi 21 3) ≤ x3 → ¬ (hi 21 (Int32.toNatClampNeg (4 + (3 * x3)))) = x1 → sk_Go Γ (sk_M Γ m_X9_stationAt Q) (0, 0) 2 [some (.ref 20), some (.int x1), some (.int x2), some (.int (x3 + 1))] [] (hi, sk_hr rr, sk_ks ++ ex))
    (o2 : ¬ (hi 21 3) ≤ x3 → (hi 21 (Int32.toNatClampNeg (4 + (3 * x3)))) = x1 → vp_in ((4 + (3 * x3)) + 1) 18368)
    (l3 : ¬ (hi 21 3) ≤ x3 → (hi 21 (Int32.toNatClampNeg (4 + (3 * x3)))) = x1 → ¬ (hi 21 (Int32.toNatClampNeg ((4 + (3 * x3)) + 1))) = x2 → sk_Go Γ (sk_M Γ m_X9_stationAt Q) (0, 0) 2 [some (.ref 20), some (.int x1), some (.int x2), some (.int (x3 + 1))] [] (hi, sk_hr rr, sk_ks ++ ex))
    (l4 : ¬ (hi 21 3) ≤ x3 → (hi 21 (Int32.toNatClampNeg (4 + (3 * x3)))) = x1 → (hi 21 (Int32.toNatClampNeg ((4 + (3 * x3)) + 1))) = x2 → Q (some (.int x3)) (hi, sk_hr rr, sk_ks ++ ex)) :
    sk_Go Γ (sk_M Γ m_X9_stationAt Q) (0, 0) 2 [some (.ref 20), some (.int x1), some (.int x2), some (.int x3)] [] (hi, sk_hr rr, sk_ks ++ ex) := by
  refine go_iload_n dX9_stationAt_2 rfl ?_
  refine go_aload_n dX9_stationAt_3 rfl ?_
  refine go_getR dX9_stationAt_4 fl_X9_7 rfl rfl (show _ = some 21 from rfl) ?_
  refine go_iconst dX9_stationAt_7 (v := 3) (by decide) ?_
  refine go_iald dX9_stationAt_8 (show _ = some (1, 18368) from rfl) (show ¬ (_ ∨ _) by decide) ?_
  show sk_Go Γ (sk_M Γ m_X9_stationAt Q) (0, 0) _ [some (.ref 20), some (.int x1), some (.int x2), some (.int x3)] [.int (hi 21 3), .int x3] _
  refine go_icmp_ge (tgt := 50) dX9_stationAt_9 (by decide) (fun c1 => ?_) (fun c1 => ?_)
  · refine go_iconst dX9_stationAt_50 (v := (-1)) (by decide) ?_
    exact go_iret (μ := m_X9_stationAt) dX9_stationAt_51 rfl (Nat.le_of_ble_eq_true rfl) (Nat.le_of_ble_eq_true rfl) (l1 c1)
  · refine go_aload_n dX9_stationAt_12 rfl ?_
    refine go_getR dX9_stationAt_13 fl_X9_7 rfl rfl (show _ = some 21 from rfl) ?_
    refine go_iconst dX9_stationAt_16 (v := 4) (by decide) ?_
    refine go_iconst dX9_stationAt_17 (v := 3) (by decide) ?_
    refine go_iload_n dX9_stationAt_18 rfl ?_
    refine go_imul dX9_stationAt_19 ?_
    refine go_iadd dX9_stationAt_20 ?_
    refine go_iald dX9_stationAt_21 (show _ = some (1, 18368) from rfl) (o1 c1) ?_
    refine go_iload_n dX9_stationAt_22 rfl ?_
    refine go_icmp_ne (tgt := 44) dX9_stationAt_23 (by decide) (fun c2 => ?_) (fun c2 => ?_)
    · refine go_iinc (v := x3 + 1) dX9_stationAt_44 rfl rfl (Nat.le_of_ble_eq_true rfl) ?_
      show sk_Go Γ (sk_M Γ m_X9_stationAt Q) (0, 0) _ [some (.ref 20), some (.int x1), some (.int x2), some (.int (x3 + 1))] [] _
      refine go_goto (tgt := 2) dX9_stationAt_47 (by decide) ?_
      exact (l2 c1 c2)
    · refine go_aload_n dX9_stationAt_26 rfl ?_
      refine go_getR dX9_stationAt_27 fl_X9_7 rfl rfl (show _ = some 21 from rfl) ?_
      refine go_iconst dX9_stationAt_30 (v := 4) (by decide) ?_
      refine go_iconst dX9_stationAt_31 (v := 3) (by decide) ?_
      refine go_iload_n dX9_stationAt_32 rfl ?_
      refine go_imul dX9_stationAt_33 ?_
      refine go_iadd dX9_stationAt_34 ?_
      refine go_iconst dX9_stationAt_35 (v := 1) (by decide) ?_
      refine go_iadd dX9_stationAt_36 ?_
      refine go_iald dX9_stationAt_37 (show _ = some (1, 18368) from rfl) (o2 c1 c2) ?_
      refine go_iload_n dX9_stationAt_38 rfl ?_
      refine go_icmp_ne (tgt := 44) dX9_stationAt_39 (by decide) (fun c3 => ?_) (fun c3 => ?_)
      · refine go_iinc (v := x3 + 1) dX9_stationAt_44 rfl rfl (Nat.le_of_ble_eq_true rfl) ?_
        show sk_Go Γ (sk_M Γ m_X9_stationAt Q) (0, 0) _ [some (.ref 20), some (.int x1), some (.int x2), some (.int (x3 + 1))] [] _
        refine go_goto (tgt := 2) dX9_stationAt_47 (by decide) ?_
        exact (l3 c1 c2 c3)
      · refine go_iload_n dX9_stationAt_42 rfl ?_
        exact go_iret (μ := m_X9_stationAt) dX9_stationAt_43 rfl (Nat.le_of_ble_eq_true rfl) (Nat.le_of_ble_eq_true rfl) (l4 c1 c2 c3)
theorem k_X9_station_0 {x1 x2 x3 : Int32} {hi : Nat → Nat → Int32}
    (l1 : (hi 21 3) = (4 : Int32) → Q (some (.int (-1))) (hi, sk_hr rr, sk_ks ++ ex))
    (l2 : ¬ (hi 21 3) = (4 : Int32) → sk_Ct Γ m_X9_isSpot [.int x1, .int x2] (hi, sk_hr rr, sk_ks ++ ex) (fun r h' => sk_Go Γ (sk_M Γ m_X9_station Q) (0, 0) 15 [some (.ref 20), some (.int x1), some (.int x2), some (.int x3), none] (r.toList ++ []) h')) :
    sk_Go Γ (sk_M Γ m_X9_station Q) (0, 0) 0 [some (.ref 20), some (.int x1), some (.int x2), some (.int x3), none] [] (hi, sk_hr rr, sk_ks ++ ex) := by
  refine go_aload_n dX9_station_0 rfl ?_
  refine go_getR dX9_station_1 fl_X9_7 rfl rfl (show _ = some 21 from rfl) ?_
  refine go_iconst dX9_station_4 (v := 3) (by decide) ?_
  refine go_iald dX9_station_5 (show _ = some (1, 18368) from rfl) (show ¬ (_ ∨ _) by decide) ?_
  show sk_Go Γ (sk_M Γ m_X9_station Q) (0, 0) _ [some (.ref 20), some (.int x1), some (.int x2), some (.int x3), none] [.int (hi 21 3)] _
  refine go_iconst dX9_station_6 (v := 4) (by decide) ?_
  refine go_icmp_eq (tgt := 38) dX9_station_7 (by decide) (fun c1 => ?_) (fun c1 => ?_)
  · refine go_iconst dX9_station_38 (v := (-1)) (by decide) ?_
    exact go_iret (μ := m_X9_station) dX9_station_39 rfl (Nat.le_of_ble_eq_true rfl) (Nat.le_of_ble_eq_true rfl) (l1 c1)
  · refine go_iload_n dX9_station_10 rfl ?_
    refine go_iload_n dX9_station_11 rfl ?_
    refine go_callS (μ := m_X9_isSpot) (n := 15) [.int x1, .int x2] dX9_station_12 ok_X9_isSpot ml_X9_122 wx_X9_isSpot rfl (Nat.le_of_ble_eq_true rfl) ⟨Nat.le_of_ble_eq_true rfl, Nat.le_of_ble_eq_true rfl⟩ ⟨Nat.le_of_ble_eq_true rfl, Nat.le_of_ble_eq_true rfl⟩ rfl ?_
    exact (l2 c1)
theorem k_X9_station_15 {x1 x2 x3 s0 : Int32} {hi : Nat → Nat → Int32}
    (l1 : s0 = (0 : Int32) → Q (some (.int (-1))) (hi, sk_hr rr, sk_ks ++ ex))
    (l2 : ¬ s0 = (0 : Int32) → sk_Ct Γ m_X9_isIn [.int x3, .int 0, .int 999] (hi, sk_hr rr, sk_ks ++ ex) (fun r h' => sk_Go Γ (sk_M Γ m_X9_station Q) (0, 0) 26 [some (.ref 20), some (.int x1), some (.int x2), some (.int x3), none] (r.toList ++ []) h')) :
    sk_Go Γ (sk_M Γ m_X9_station Q) (0, 0) 15 [some (.ref 20), some (.int x1), some (.int x2), some (.int x3), none] [.int s0] (hi, sk_hr rr, sk_ks ++ ex) := by
  refine go_if_eq (tgt := 38) dX9_station_15 (by decide) (fun c1 => ?_) (fun c1 => ?_)
  · refine go_iconst dX9_station_38 (v := (-1)) (by decide) ?_
    exact go_iret (μ := m_X9_station) dX9_station_39 rfl (Nat.le_of_ble_eq_true rfl) (Nat.le_of_ble_eq_true rfl) (l1 c1)
  · refine go_iload_n dX9_station_18 rfl ?_
    refine go_iconst dX9_station_19 (v := 0) (by decide) ?_
    refine go_sipush dX9_station_20 (v := 999) (by decide) ?_
    refine go_callS (μ := m_X9_isIn) (n := 26) [.int x3, .int 0, .int 999] dX9_station_23 ok_X9_isIn ml_X9_32 wx_X9_isIn rfl (Nat.le_of_ble_eq_true rfl) ⟨Nat.le_of_ble_eq_true rfl, Nat.le_of_ble_eq_true rfl⟩ ⟨Nat.le_of_ble_eq_true rfl, Nat.le_of_ble_eq_true rfl⟩ rfl ?_
    exact (l2 c1)
theorem k_X9_station_26 {x1 x2 x3 s0 : Int32} {hi : Nat → Nat → Int32}
    (l1 : s0 = (0 : Int32) → Q (some (.int (-1))) (hi, sk_hr rr, sk_ks ++ ex))
    (l2 : ¬ s0 = (0 : Int32) → sk_Ct Γ m_X9_stationAt [.ref 20, .int x1, .int x2] (hi, sk_hr rr, sk_ks ++ ex) (fun r h' => sk_Go Γ (sk_M Γ m_X9_station Q) (0, 0) 35 [some (.ref 20), some (.int x1), some (.int x2), some (.int x3), none] (r.toList ++ []) h')) :
    sk_Go Γ (sk_M Γ m_X9_station Q) (0, 0) 26 [some (.ref 20), some (.int x1), some (.int x2), some (.int x3), none] [.int s0] (hi, sk_hr rr, sk_ks ++ ex) := by
  refine go_if_eq (tgt := 38) dX9_station_26 (by decide) (fun c1 => ?_) (fun c1 => ?_)
  · refine go_iconst dX9_station_38 (v := (-1)) (by decide) ?_
    exact go_iret (μ := m_X9_station) dX9_station_39 rfl (Nat.le_of_ble_eq_true rfl) (Nat.le_of_ble_eq_true rfl) (l1 c1)
  · refine go_aload_n dX9_station_29 rfl ?_
    refine go_iload_n dX9_station_30 rfl ?_
    refine go_iload_n dX9_station_31 rfl ?_
    refine go_callV (μ := m_X9_stationAt) (n := 35) (T := TX9) (N := 10) [.int x1, .int x2] dX9_station_32 ok_X9_stationAt ml_X9_125 wx_X9_stationAt wl_X9_stationAt (show _ = some (0, 8) from rfl) rfl rfl (Nat.le_of_ble_eq_true rfl) ⟨Nat.le_of_ble_eq_true rfl, Nat.le_of_ble_eq_true rfl⟩ ⟨Nat.le_of_ble_eq_true rfl, Nat.le_of_ble_eq_true rfl⟩ rfl ?_
    exact (l2 c1)
theorem k_X9_station_35 {x1 x2 x3 s0 : Int32} {hi : Nat → Nat → Int32}
    (o1 : s0 < (0 : Int32) → vp_in (4 + (3 * (hi 21 3))) 18368)
    (o2 : s0 < (0 : Int32) → vp_in ((4 + (3 * (hi 21 3))) + 1) 18368)
    (o3 : s0 < (0 : Int32) → vp_in ((4 + (3 * (hi 21 3))) + 2) 18368)
    (l1 : s0 < (0 : Int32) → Q (some (.int ((((sk_wi (sk_wi (sk_wi hi 21 (Int32.toNatClampNeg (4 + (3 * (hi 21 3)))) x1) 21 (Int32.toNatClampNeg ((4 + (3 * (hi 21 3))) + 1)) x2) 21 (Int32.toNatClampNeg ((4 + (3 * (hi 21 3))) + 2)) x3) 21 3) + 1) - 1))) ((sk_wi (sk_wi (sk_wi (sk_wi hi 21 (Int32.toNatClampNeg (4 + (3 * (hi 21 3)))) x1) 21 (Int32.toNatClampNeg ((4 + (3 * (hi 21 3))) + 1)) x2) 21 (Int32.toNatClampNeg ((4 + (3 * (hi 21 3))) + 2)) x3) 21 3 (((sk_wi (sk_wi (sk_wi hi 21 (Int32.toNatClampNeg (4 + (3 * (hi 21 3)))) x1) 21 (Int32.toNatClampNeg ((4 + (3 * (hi 21 3))) + 1)) x2) 21 (Int32.toNatClampNeg ((4 + (3 * (hi 21 3))) + 2)) x3) 21 3) + 1)), sk_hr rr, sk_ks ++ ex))
    (l2 : ¬ s0 < (0 : Int32) → Q (some (.int (-1))) (hi, sk_hr rr, sk_ks ++ ex)) :
    sk_Go Γ (sk_M Γ m_X9_station Q) (0, 0) 35 [some (.ref 20), some (.int x1), some (.int x2), some (.int x3), none] [.int s0] (hi, sk_hr rr, sk_ks ++ ex) := by
  refine go_if_lt (tgt := 40) dX9_station_35 (by decide) (fun c1 => ?_) (fun c1 => ?_)
  · refine go_iconst dX9_station_40 (v := 4) (by decide) ?_
    refine go_iconst dX9_station_41 (v := 3) (by decide) ?_
    refine go_aload_n dX9_station_42 rfl ?_
    refine go_getR dX9_station_43 fl_X9_7 rfl rfl (show _ = some 21 from rfl) ?_
    refine go_iconst dX9_station_46 (v := 3) (by decide) ?_
    refine go_iald dX9_station_47 (show _ = some (1, 18368) from rfl) (show ¬ (_ ∨ _) by decide) ?_
    show sk_Go Γ (sk_M Γ m_X9_station Q) (0, 0) _ [some (.ref 20), some (.int x1), some (.int x2), some (.int x3), none] [.int (hi 21 3), .int 3, .int 4] _
    refine go_imul dX9_station_48 ?_
    refine go_iadd dX9_station_49 ?_
    refine go_istore dX9_station_50 (Nat.le_of_ble_eq_true rfl) ?_
    show sk_Go Γ (sk_M Γ m_X9_station Q) (0, 0) _ [some (.ref 20), some (.int x1), some (.int x2), some (.int x3), some (.int (4 + (3 * (hi 21 3))))] [] _
    refine go_aload_n dX9_station_52 rfl ?_
    refine go_getR dX9_station_53 fl_X9_7 rfl rfl (show _ = some 21 from rfl) ?_
    refine go_iload dX9_station_56 rfl ?_
    refine go_iload_n dX9_station_58 rfl ?_
    refine go_iast dX9_station_59 (show _ = some (1, 18368) from rfl) (o1 c1) ?_
    refine go_aload_n dX9_station_60 rfl ?_
    refine go_getR dX9_station_61 fl_X9_7 rfl rfl (show _ = some 21 from rfl) ?_
    refine go_iload dX9_station_64 rfl ?_
    refine go_iconst dX9_station_66 (v := 1) (by decide) ?_
    refine go_iadd dX9_station_67 ?_
    refine go_iload_n dX9_station_68 rfl ?_
    refine go_iast dX9_station_69 (show _ = some (1, 18368) from rfl) (o2 c1) ?_
    refine go_aload_n dX9_station_70 rfl ?_
    refine go_getR dX9_station_71 fl_X9_7 rfl rfl (show _ = some 21 from rfl) ?_
    refine go_iload dX9_station_74 rfl ?_
    refine go_iconst dX9_station_76 (v := 2) (by decide) ?_
    refine go_iadd dX9_station_77 ?_
    refine go_iload_n dX9_station_78 rfl ?_
    refine go_iast dX9_station_79 (show _ = some (1, 18368) from rfl) (o3 c1) ?_
    refine go_aload_n dX9_station_80 rfl ?_
    refine go_getR dX9_station_81 fl_X9_7 rfl rfl (show _ = some 21 from rfl) ?_
    refine go_iconst dX9_station_84 (v := 3) (by decide) ?_
    refine go_dup2 dX9_station_85 rfl rfl ?_
    refine go_iald dX9_station_86 (show _ = some (1, 18368) from rfl) (show ¬ (_ ∨ _) by decide) ?_
    show sk_Go Γ (sk_M Γ m_X9_station Q) (0, 0) _ [some (.ref 20), some (.int x1), some (.int x2), some (.int x3), some (.int (4 + (3 * (hi 21 3))))] [.int ((sk_wi (sk_wi (sk_wi hi 21 (Int32.toNatClampNeg (4 + (3 * (hi 21 3)))) x1) 21 (Int32.toNatClampNeg ((4 + (3 * (hi 21 3))) + 1)) x2) 21 (Int32.toNatClampNeg ((4 + (3 * (hi 21 3))) + 2)) x3) 21 3), .int 3, .ref 21] _
    refine go_iconst dX9_station_87 (v := 1) (by decide) ?_
    refine go_iadd dX9_station_88 ?_
    refine go_iast dX9_station_89 (show _ = some (1, 18368) from rfl) (show ¬ (_ ∨ _) by decide) ?_
    show sk_Go Γ (sk_M Γ m_X9_station Q) (0, 0) _ [some (.ref 20), some (.int x1), some (.int x2), some (.int x3), some (.int (4 + (3 * (hi 21 3))))] [] ((sk_wi (sk_wi (sk_wi (sk_wi hi 21 (Int32.toNatClampNeg (4 + (3 * (hi 21 3)))) x1) 21 (Int32.toNatClampNeg ((4 + (3 * (hi 21 3))) + 1)) x2) 21 (Int32.toNatClampNeg ((4 + (3 * (hi 21 3))) + 2)) x3) 21 3 (((sk_wi (sk_wi (sk_wi hi 21 (Int32.toNatClampNeg (4 + (3 * (hi 21 3)))) x1) 21 (Int32.toNatClampNeg ((4 + (3 * (hi 21 3))) + 1)) x2) 21 (Int32.toNatClampNeg ((4 + (3 * (hi 21 3))) + 2)) x3) 21 3) + 1)), sk_hr rr, sk_ks ++ ex)
    refine go_aload_n dX9_station_90 rfl ?_
    refine go_getR dX9_station_91 fl_X9_7 rfl rfl (show _ = some 21 from rfl) ?_
    refine go_iconst dX9_station_94 (v := 3) (by decide) ?_
    refine go_iald dX9_station_95 (show _ = some (1, 18368) from rfl) (show ¬ (_ ∨ _) by decide) ?_
    show sk_Go Γ (sk_M Γ m_X9_station Q) (0, 0) _ [some (.ref 20), some (.int x1), some (.int x2), some (.int x3), some (.int (4 + (3 * (hi 21 3))))] [.int (((sk_wi (sk_wi (sk_wi hi 21 (Int32.toNatClampNeg (4 + (3 * (hi 21 3)))) x1) 21 (Int32.toNatClampNeg ((4 + (3 * (hi 21 3))) + 1)) x2) 21 (Int32.toNatClampNeg ((4 + (3 * (hi 21 3))) + 2)) x3) 21 3) + 1)] _
    refine go_iconst dX9_station_96 (v := 1) (by decide) ?_
    refine go_isub dX9_station_97 ?_
    exact go_iret (μ := m_X9_station) dX9_station_98 rfl (Nat.le_of_ble_eq_true rfl) (Nat.le_of_ble_eq_true rfl) (l1 c1)
  · refine go_iconst dX9_station_38 (v := (-1)) (by decide) ?_
    exact go_iret (μ := m_X9_station) dX9_station_39 rfl (Nat.le_of_ble_eq_true rfl) (Nat.le_of_ble_eq_true rfl) (l2 c1)
theorem k_X9_tellStation_0 {x1 x2 : Int32} {hi : Nat → Nat → Int32}
    (l1 : sk_Ct Γ m_X9_isIn [.int x1, .int 0, .int ((hi 21 3) - 1)] (hi, sk_hr rr, sk_ks ++ ex) (fun r h' => sk_Go Γ (sk_M Γ m_X9_tellStation Q) (0, 0) 13 [some (.ref 20), some (.int x1), some (.int x2)] (r.toList ++ []) h')) :
    sk_Go Γ (sk_M Γ m_X9_tellStation Q) (0, 0) 0 [some (.ref 20), some (.int x1), some (.int x2)] [] (hi, sk_hr rr, sk_ks ++ ex) := by
  refine go_iload_n dX9_tellStation_0 rfl ?_
  refine go_iconst dX9_tellStation_1 (v := 0) (by decide) ?_
  refine go_aload_n dX9_tellStation_2 rfl ?_
  refine go_getR dX9_tellStation_3 fl_X9_7 rfl rfl (show _ = some 21 from rfl) ?_
  refine go_iconst dX9_tellStation_6 (v := 3) (by decide) ?_
  refine go_iald dX9_tellStation_7 (show _ = some (1, 18368) from rfl) (show ¬ (_ ∨ _) by decide) ?_
  show sk_Go Γ (sk_M Γ m_X9_tellStation Q) (0, 0) _ [some (.ref 20), some (.int x1), some (.int x2)] [.int (hi 21 3), .int 0, .int x1] _
  refine go_iconst dX9_tellStation_8 (v := 1) (by decide) ?_
  refine go_isub dX9_tellStation_9 ?_
  refine go_callS (μ := m_X9_isIn) (n := 13) [.int x1, .int 0, .int ((hi 21 3) - 1)] dX9_tellStation_10 ok_X9_isIn ml_X9_32 wx_X9_isIn rfl (Nat.le_of_ble_eq_true rfl) ⟨Nat.le_of_ble_eq_true rfl, Nat.le_of_ble_eq_true rfl⟩ ⟨Nat.le_of_ble_eq_true rfl, Nat.le_of_ble_eq_true rfl⟩ rfl ?_
  exact l1
theorem k_X9_tellStation_13 {x1 x2 s0 : Int32} {hi : Nat → Nat → Int32}
    (l1 : s0 = (0 : Int32) → Q (some (.int 0)) (hi, sk_hr rr, sk_ks ++ ex))
    (l2 : ¬ s0 = (0 : Int32) → sk_Ct Γ m_X9_isIn [.int x2, .int 0, .int 999] (hi, sk_hr rr, sk_ks ++ ex) (fun r h' => sk_Go Γ (sk_M Γ m_X9_tellStation Q) (0, 0) 24 [some (.ref 20), some (.int x1), some (.int x2)] (r.toList ++ []) h')) :
    sk_Go Γ (sk_M Γ m_X9_tellStation Q) (0, 0) 13 [some (.ref 20), some (.int x1), some (.int x2)] [.int s0] (hi, sk_hr rr, sk_ks ++ ex) := by
  refine go_if_eq (tgt := 27) dX9_tellStation_13 (by decide) (fun c1 => ?_) (fun c1 => ?_)
  · refine go_iconst dX9_tellStation_27 (v := 0) (by decide) ?_
    exact go_zret (μ := m_X9_tellStation) dX9_tellStation_28 rfl rfl (Nat.le_of_ble_eq_true rfl) (Nat.le_of_ble_eq_true rfl) (l1 c1)
  · refine go_iload_n dX9_tellStation_16 rfl ?_
    refine go_iconst dX9_tellStation_17 (v := 0) (by decide) ?_
    refine go_sipush dX9_tellStation_18 (v := 999) (by decide) ?_
    refine go_callS (μ := m_X9_isIn) (n := 24) [.int x2, .int 0, .int 999] dX9_tellStation_21 ok_X9_isIn ml_X9_32 wx_X9_isIn rfl (Nat.le_of_ble_eq_true rfl) ⟨Nat.le_of_ble_eq_true rfl, Nat.le_of_ble_eq_true rfl⟩ ⟨Nat.le_of_ble_eq_true rfl, Nat.le_of_ble_eq_true rfl⟩ rfl ?_
    exact (l2 c1)
theorem k_X9_tellStation_24 {x1 x2 s0 : Int32} {hi : Nat → Nat → Int32}
    (o1 : ¬ s0 = (0 : Int32) → vp_in ((4 + (3 * x1)) + 2) 18368)
    (l1 : ¬ s0 = (0 : Int32) → Q (some (.int 1)) ((sk_wi hi 21 (Int32.toNatClampNeg ((4 + (3 * x1)) + 2)) x2), sk_hr rr, sk_ks ++ ex))
    (l2 : s0 = (0 : Int32) → Q (some (.int 0)) (hi, sk_hr rr, sk_ks ++ ex)) :
    sk_Go Γ (sk_M Γ m_X9_tellStation Q) (0, 0) 24 [some (.ref 20), some (.int x1), some (.int x2)] [.int s0] (hi, sk_hr rr, sk_ks ++ ex) := by
  refine go_if_ne (tgt := 29) dX9_tellStation_24 (by decide) (fun c1 => ?_) (fun c1 => ?_)
  · refine go_aload_n dX9_tellStation_29 rfl ?_
    refine go_getR dX9_tellStation_30 fl_X9_7 rfl rfl (show _ = some 21 from rfl) ?_
    refine go_iconst dX9_tellStation_33 (v := 4) (by decide) ?_
    refine go_iconst dX9_tellStation_34 (v := 3) (by decide) ?_
    refine go_iload_n dX9_tellStation_35 rfl ?_
    refine go_imul dX9_tellStation_36 ?_
    refine go_iadd dX9_tellStation_37 ?_
    refine go_iconst dX9_tellStation_38 (v := 2) (by decide) ?_
    refine go_iadd dX9_tellStation_39 ?_
    refine go_iload_n dX9_tellStation_40 rfl ?_
    refine go_iast dX9_tellStation_41 (show _ = some (1, 18368) from rfl) (o1 c1) ?_
    refine go_iconst dX9_tellStation_42 (v := 1) (by decide) ?_
    exact go_zret (μ := m_X9_tellStation) dX9_tellStation_43 rfl rfl (Nat.le_of_ble_eq_true rfl) (Nat.le_of_ble_eq_true rfl) (l1 c1)
  · refine go_iconst dX9_tellStation_27 (v := 0) (by decide) ?_
    exact go_zret (μ := m_X9_tellStation) dX9_tellStation_28 rfl rfl (Nat.le_of_ble_eq_true rfl) (Nat.le_of_ble_eq_true rfl) (l2 c1)
theorem k_X9_away_0 {x1 x2 x3 : Int32} {hi : Nat → Nat → Int32}
    (o1 : vp_in (4 + (3 * x1)) 18368)
    (o2 : vp_in ((4 + (3 * x1)) + 1) 18368)
    (l1 : Q (some (.long (((Int32.toInt64 ((hi 21 (Int32.toNatClampNeg (4 + (3 * x1)))) - x2)) * (Int32.toInt64 ((hi 21 (Int32.toNatClampNeg (4 + (3 * x1)))) - x2))) + ((Int32.toInt64 ((hi 21 (Int32.toNatClampNeg ((4 + (3 * x1)) + 1))) - x3)) * (Int32.toInt64 ((hi 21 (Int32.toNatClampNeg ((4 + (3 * x1)) + 1))) - x3)))))) (hi, sk_hr rr, sk_ks ++ ex)) :
    sk_Go Γ (sk_M Γ m_X9_away Q) (0, 0) 0 [some (.ref 20), some (.int x1), some (.int x2), some (.int x3), none, none, none, none] [] (hi, sk_hr rr, sk_ks ++ ex) := by
  refine go_aload_n dX9_away_0 rfl ?_
  refine go_getR dX9_away_1 fl_X9_7 rfl rfl (show _ = some 21 from rfl) ?_
  refine go_iconst dX9_away_4 (v := 4) (by decide) ?_
  refine go_iconst dX9_away_5 (v := 3) (by decide) ?_
  refine go_iload_n dX9_away_6 rfl ?_
  refine go_imul dX9_away_7 ?_
  refine go_iadd dX9_away_8 ?_
  refine go_iald dX9_away_9 (show _ = some (1, 18368) from rfl) o1 ?_
  refine go_iload_n dX9_away_10 rfl ?_
  refine go_isub dX9_away_11 ?_
  refine go_i2l dX9_away_12 ?_
  refine go_lstore dX9_away_13 (Nat.le_of_ble_eq_true rfl) ?_
  show sk_Go Γ (sk_M Γ m_X9_away Q) (0, 0) _ [some (.ref 20), some (.int x1), some (.int x2), some (.int x3), some (.long (Int32.toInt64 ((hi 21 (Int32.toNatClampNeg (4 + (3 * x1)))) - x2))), none, none, none] [] _
  refine go_aload_n dX9_away_15 rfl ?_
  refine go_getR dX9_away_16 fl_X9_7 rfl rfl (show _ = some 21 from rfl) ?_
  refine go_iconst dX9_away_19 (v := 4) (by decide) ?_
  refine go_iconst dX9_away_20 (v := 3) (by decide) ?_
  refine go_iload_n dX9_away_21 rfl ?_
  refine go_imul dX9_away_22 ?_
  refine go_iadd dX9_away_23 ?_
  refine go_iconst dX9_away_24 (v := 1) (by decide) ?_
  refine go_iadd dX9_away_25 ?_
  refine go_iald dX9_away_26 (show _ = some (1, 18368) from rfl) o2 ?_
  refine go_iload_n dX9_away_27 rfl ?_
  refine go_isub dX9_away_28 ?_
  refine go_i2l dX9_away_29 ?_
  refine go_lstore dX9_away_30 (Nat.le_of_ble_eq_true rfl) ?_
  show sk_Go Γ (sk_M Γ m_X9_away Q) (0, 0) _ [some (.ref 20), some (.int x1), some (.int x2), some (.int x3), some (.long (Int32.toInt64 ((hi 21 (Int32.toNatClampNeg (4 + (3 * x1)))) - x2))), none, some (.long (Int32.toInt64 ((hi 21 (Int32.toNatClampNeg ((4 + (3 * x1)) + 1))) - x3))), none] [] _
  refine go_lload dX9_away_32 rfl ?_
  refine go_lload dX9_away_34 rfl ?_
  refine go_lmul dX9_away_36 ?_
  refine go_lload dX9_away_37 rfl ?_
  refine go_lload dX9_away_39 rfl ?_
  refine go_lmul dX9_away_41 ?_
  refine go_ladd dX9_away_42 ?_
  exact go_lret (μ := m_X9_away) dX9_away_43 rfl (Nat.le_of_ble_eq_true rfl) (Nat.le_of_ble_eq_true rfl) l1
theorem k_X9_map_0 {x1 x2 : Int32} {hi : Nat → Nat → Int32}
    (l1 : (hi 21 3) = (0 : Int32) → Q (some (.int (-1))) (hi, sk_hr rr, sk_ks ++ ex))
    (l2 : ¬ (hi 21 3) = (0 : Int32) → sk_Ct Γ m_X9_isSpot [.int x1, .int x2] (hi, sk_hr rr, sk_ks ++ ex) (fun r h' => sk_Go Γ (sk_M Γ m_X9_map Q) (0, 0) 14 [some (.ref 20), some (.int x1), some (.int x2), none, none, none, none, none, none, none, none, none] (r.toList ++ []) h')) :
    sk_Go Γ (sk_M Γ m_X9_map Q) (0, 0) 0 [some (.ref 20), some (.int x1), some (.int x2), none, none, none, none, none, none, none, none, none] [] (hi, sk_hr rr, sk_ks ++ ex) := by
  refine go_aload_n dX9_map_0 rfl ?_
  refine go_getR dX9_map_1 fl_X9_7 rfl rfl (show _ = some 21 from rfl) ?_
  refine go_iconst dX9_map_4 (v := 3) (by decide) ?_
  refine go_iald dX9_map_5 (show _ = some (1, 18368) from rfl) (show ¬ (_ ∨ _) by decide) ?_
  show sk_Go Γ (sk_M Γ m_X9_map Q) (0, 0) _ [some (.ref 20), some (.int x1), some (.int x2), none, none, none, none, none, none, none, none, none] [.int (hi 21 3)] _
  refine go_if_eq (tgt := 17) dX9_map_6 (by decide) (fun c1 => ?_) (fun c1 => ?_)
  · refine go_iconst dX9_map_17 (v := (-1)) (by decide) ?_
    exact go_iret (μ := m_X9_map) dX9_map_18 rfl (Nat.le_of_ble_eq_true rfl) (Nat.le_of_ble_eq_true rfl) (l1 c1)
  · refine go_iload_n dX9_map_9 rfl ?_
    refine go_iload_n dX9_map_10 rfl ?_
    refine go_callS (μ := m_X9_isSpot) (n := 14) [.int x1, .int x2] dX9_map_11 ok_X9_isSpot ml_X9_122 wx_X9_isSpot rfl (Nat.le_of_ble_eq_true rfl) ⟨Nat.le_of_ble_eq_true rfl, Nat.le_of_ble_eq_true rfl⟩ ⟨Nat.le_of_ble_eq_true rfl, Nat.le_of_ble_eq_true rfl⟩ rfl ?_
    exact (l2 c1)
theorem k_X9_map_14 {x1 x2 s0 : Int32} {hi : Nat → Nat → Int32}
    (l1 : ¬ s0 = (0 : Int32) → sk_Ct Γ m_X9_stationAt [.ref 20, .int x1, .int x2] (hi, sk_hr rr, sk_ks ++ ex) (fun r h' => sk_Go Γ (sk_M Γ m_X9_map Q) (0, 0) 25 [some (.ref 20), some (.int x1), some (.int x2), none, none, none, none, none, none, none, none, none] (r.toList ++ []) h'))
    (l2 : s0 = (0 : Int32) → Q (some (.int (-1))) (hi, sk_hr rr, sk_ks ++ ex)) :
    sk_Go Γ (sk_M Γ m_X9_map Q) (0, 0) 14 [some (.ref 20), some (.int x1), some (.int x2), none, none, none, none, none, none, none, none, none] [.int s0] (hi, sk_hr rr, sk_ks ++ ex) := by
  refine go_if_ne (tgt := 19) dX9_map_14 (by decide) (fun c1 => ?_) (fun c1 => ?_)
  · refine go_aload_n dX9_map_19 rfl ?_
    refine go_iload_n dX9_map_20 rfl ?_
    refine go_iload_n dX9_map_21 rfl ?_
    refine go_callV (μ := m_X9_stationAt) (n := 25) (T := TX9) (N := 10) [.int x1, .int x2] dX9_map_22 ok_X9_stationAt ml_X9_125 wx_X9_stationAt wl_X9_stationAt (show _ = some (0, 8) from rfl) rfl rfl (Nat.le_of_ble_eq_true rfl) ⟨Nat.le_of_ble_eq_true rfl, Nat.le_of_ble_eq_true rfl⟩ ⟨Nat.le_of_ble_eq_true rfl, Nat.le_of_ble_eq_true rfl⟩ rfl ?_
    exact (l1 c1)
  · refine go_iconst dX9_map_17 (v := (-1)) (by decide) ?_
    exact go_iret (μ := m_X9_map) dX9_map_18 rfl (Nat.le_of_ble_eq_true rfl) (Nat.le_of_ble_eq_true rfl) (l2 c1)
theorem k_X9_map_25 {x1 x2 s0 : Int32} {hi : Nat → Nat → Int32}
    (l1 : s0 < (0 : Int32) → sk_Go Γ (sk_M Γ m_X9_map Q) (0, 0) 52 [some (.ref 20), some (.int x1), some (.int x2), some (.int s0), some (.long (0 : Int64)), none, some (.long (0 : Int64)), none, some (.int 0), none, none, none] [] (hi, sk_hr rr, sk_ks ++ ex))
    (o1 : ¬ s0 < (0 : Int32) → vp_in ((4 + (3 * s0)) + 2) 18368)
    (l2 : ¬ s0 < (0 : Int32) → Q (some (.int (hi 21 (Int32.toNatClampNeg ((4 + (3 * s0)) + 2))))) (hi, sk_hr rr, sk_ks ++ ex)) :
    sk_Go Γ (sk_M Γ m_X9_map Q) (0, 0) 25 [some (.ref 20), some (.int x1), some (.int x2), none, none, none, none, none, none, none, none, none] [.int s0] (hi, sk_hr rr, sk_ks ++ ex) := by
  refine go_istore_n dX9_map_25 (Nat.le_of_ble_eq_true rfl) ?_
  show sk_Go Γ (sk_M Γ m_X9_map Q) (0, 0) _ [some (.ref 20), some (.int x1), some (.int x2), some (.int s0), none, none, none, none, none, none, none, none] [] _
  refine go_iload_n dX9_map_26 rfl ?_
  refine go_if_lt (tgt := 43) dX9_map_27 (by decide) (fun c1 => ?_) (fun c1 => ?_)
  · refine go_lconst dX9_map_43 (v := 0) (by decide) ?_
    refine go_lstore dX9_map_44 (Nat.le_of_ble_eq_true rfl) ?_
    show sk_Go Γ (sk_M Γ m_X9_map Q) (0, 0) _ [some (.ref 20), some (.int x1), some (.int x2), some (.int s0), some (.long (0 : Int64)), none, none, none, none, none, none, none] [] _
    refine go_lconst dX9_map_46 (v := 0) (by decide) ?_
    refine go_lstore dX9_map_47 (Nat.le_of_ble_eq_true rfl) ?_
    show sk_Go Γ (sk_M Γ m_X9_map Q) (0, 0) _ [some (.ref 20), some (.int x1), some (.int x2), some (.int s0), some (.long (0 : Int64)), none, some (.long (0 : Int64)), none, none, none, none, none] [] _
    refine go_iconst dX9_map_49 (v := 0) (by decide) ?_
    refine go_istore dX9_map_50 (Nat.le_of_ble_eq_true rfl) ?_
    show sk_Go Γ (sk_M Γ m_X9_map Q) (0, 0) _ [some (.ref 20), some (.int x1), some (.int x2), some (.int s0), some (.long (0 : Int64)), none, some (.long (0 : Int64)), none, some (.int 0), none, none, none] [] _
    exact (l1 c1)
  · refine go_aload_n dX9_map_30 rfl ?_
    refine go_getR dX9_map_31 fl_X9_7 rfl rfl (show _ = some 21 from rfl) ?_
    refine go_iconst dX9_map_34 (v := 4) (by decide) ?_
    refine go_iconst dX9_map_35 (v := 3) (by decide) ?_
    refine go_iload_n dX9_map_36 rfl ?_
    refine go_imul dX9_map_37 ?_
    refine go_iadd dX9_map_38 ?_
    refine go_iconst dX9_map_39 (v := 2) (by decide) ?_
    refine go_iadd dX9_map_40 ?_
    refine go_iald dX9_map_41 (show _ = some (1, 18368) from rfl) (o1 c1) ?_
    exact go_iret (μ := m_X9_map) dX9_map_42 rfl (Nat.le_of_ble_eq_true rfl) (Nat.le_of_ble_eq_true rfl) (l2 c1)
theorem k_X9_map_52 {x1 x2 x3 x8 : Int32} {x4 x6 : Int64} {hi : Nat → Nat → Int32}
    (o1 : (hi 21 3) ≤ x8 → ¬ x6 = 0)
    (l1 : (hi 21 3) ≤ x8 → Q (some (.int (Int64.toInt32 (x4 / x6)))) (hi, sk_hr rr, sk_ks ++ ex))
    (l2 : ¬ (hi 21 3) ≤ x8 → sk_Go Γ (sk_M Γ m_X9_map Q) (0, 0) 69 [some (.ref 20), some (.int x1), some (.int x2), some (.int x3), some (.long x4), none, some (.long x6), none, some (.int x8), some (.long (1 : Int64)), none, some (.int 0)] [] (hi, sk_hr rr, sk_ks ++ ex)) :
    sk_Go Γ (sk_M Γ m_X9_map Q) (0, 0) 52 [some (.ref 20), some (.int x1), some (.int x2), some (.int x3), some (.long x4), none, some (.long x6), none, some (.int x8), none, none, none] [] (hi, sk_hr rr, sk_ks ++ ex) := by
  refine go_iload dX9_map_52 rfl ?_
  refine go_aload_n dX9_map_54 rfl ?_
  refine go_getR dX9_map_55 fl_X9_7 rfl rfl (show _ = some 21 from rfl) ?_
  refine go_iconst dX9_map_58 (v := 3) (by decide) ?_
  refine go_iald dX9_map_59 (show _ = some (1, 18368) from rfl) (show ¬ (_ ∨ _) by decide) ?_
  show sk_Go Γ (sk_M Γ m_X9_map Q) (0, 0) _ [some (.ref 20), some (.int x1), some (.int x2), some (.int x3), some (.long x4), none, some (.long x6), none, some (.int x8), none, none, none] [.int (hi 21 3), .int x8] _
  refine go_icmp_ge (tgt := 141) dX9_map_60 (by decide) (fun c1 => ?_) (fun c1 => ?_)
  · refine go_lload dX9_map_141 rfl ?_
    refine go_lload dX9_map_143 rfl ?_
    refine go_ldiv dX9_map_145 (o1 c1) ?_
    refine go_l2i dX9_map_146 ?_
    exact go_iret (μ := m_X9_map) dX9_map_147 rfl (Nat.le_of_ble_eq_true rfl) (Nat.le_of_ble_eq_true rfl) (l1 c1)
  · refine go_lconst dX9_map_63 (v := 1) (by decide) ?_
    refine go_lstore dX9_map_64 (Nat.le_of_ble_eq_true rfl) ?_
    show sk_Go Γ (sk_M Γ m_X9_map Q) (0, 0) _ [some (.ref 20), some (.int x1), some (.int x2), some (.int x3), some (.long x4), none, some (.long x6), none, some (.int x8), some (.long (1 : Int64)), none, none] [] _
    refine go_iconst dX9_map_66 (v := 0) (by decide) ?_
    refine go_istore dX9_map_67 (Nat.le_of_ble_eq_true rfl) ?_
    show sk_Go Γ (sk_M Γ m_X9_map Q) (0, 0) _ [some (.ref 20), some (.int x1), some (.int x2), some (.int x3), some (.long x4), none, some (.long x6), none, some (.int x8), some (.long (1 : Int64)), none, some (.int 0)] [] _
    exact (l2 c1)
theorem k_X9_map_69 {x1 x2 x3 x8 x11 : Int32} {x4 x6 x9 : Int64} {hi : Nat → Nat → Int32}
    (o1 : (hi 21 3) ≤ x11 → vp_in ((4 + (3 * x8)) + 2) 18368)
    (l1 : (hi 21 3) ≤ x11 → sk_Go Γ (sk_M Γ m_X9_map Q) (0, 0) 52 [some (.ref 20), some (.int x1), some (.int x2), some (.int x3), some (.long (x4 + (x9 * (Int32.toInt64 (hi 21 (Int32.toNatClampNeg ((4 + (3 * x8)) + 2))))))), none, some (.long (x6 + x9)), none, some (.int (x8 + 1)), none, none, none] [] (hi, sk_hr rr, sk_ks ++ ex))
    (l2 : ¬ (hi 21 3) ≤ x11 → x11 = x8 → sk_Go Γ (sk_M Γ m_X9_map Q) (0, 0) 69 [some (.ref 20), some (.int x1), some (.int x2), some (.int x3), some (.long x4), none, some (.long x6), none, some (.int x8), some (.long x9), none, some (.int (x11 + 1))] [] (hi, sk_hr rr, sk_ks ++ ex))
    (l3 : ¬ (hi 21 3) ≤ x11 → ¬ x11 = x8 → sk_Ct Γ m_X9_away [.ref 20, .int x11, .int x1, .int x2] (hi, sk_hr rr, sk_ks ++ ex) (fun r h' => sk_Go Γ (sk_M Γ m_X9_map Q) (0, 0) 97 [some (.ref 20), some (.int x1), some (.int x2), some (.int x3), some (.long x4), none, some (.long x6), none, some (.int x8), some (.long x9), none, some (.int x11)] (r.toList ++ [.long x9]) h')) :
    sk_Go Γ (sk_M Γ m_X9_map Q) (0, 0) 69 [some (.ref 20), some (.int x1), some (.int x2), some (.int x3), some (.long x4), none, some (.long x6), none, some (.int x8), some (.long x9), none, some (.int x11)] [] (hi, sk_hr rr, sk_ks ++ ex) := by
  refine go_iload dX9_map_69 rfl ?_
  refine go_aload_n dX9_map_71 rfl ?_
  refine go_getR dX9_map_72 fl_X9_7 rfl rfl (show _ = some 21 from rfl) ?_
  refine go_iconst dX9_map_75 (v := 3) (by decide) ?_
  refine go_iald dX9_map_76 (show _ = some (1, 18368) from rfl) (show ¬ (_ ∨ _) by decide) ?_
  show sk_Go Γ (sk_M Γ m_X9_map Q) (0, 0) _ [some (.ref 20), some (.int x1), some (.int x2), some (.int x3), some (.long x4), none, some (.long x6), none, some (.int x8), some (.long x9), none, some (.int x11)] [.int (hi 21 3), .int x11] _
  refine go_icmp_ge (tgt := 106) dX9_map_77 (by decide) (fun c1 => ?_) (fun c1 => ?_)
  · refine go_lload dX9_map_106 rfl ?_
    refine go_lload dX9_map_108 rfl ?_
    refine go_ladd dX9_map_110 ?_
    refine go_lstore dX9_map_111 (Nat.le_of_ble_eq_true rfl) ?_
    show sk_Go Γ (sk_M Γ m_X9_map Q) (0, 0) _ [some (.ref 20), some (.int x1), some (.int x2), some (.int x3), some (.long x4), none, some (.long (x6 + x9)), none, some (.int x8), some (.long x9), none, some (.int x11)] [] _
    refine go_lload dX9_map_113 rfl ?_
    refine go_lload dX9_map_115 rfl ?_
    refine go_aload_n dX9_map_117 rfl ?_
    refine go_getR dX9_map_118 fl_X9_7 rfl rfl (show _ = some 21 from rfl) ?_
    refine go_iconst dX9_map_121 (v := 4) (by decide) ?_
    refine go_iconst dX9_map_122 (v := 3) (by decide) ?_
    refine go_iload dX9_map_123 rfl ?_
    refine go_imul dX9_map_125 ?_
    refine go_iadd dX9_map_126 ?_
    refine go_iconst dX9_map_127 (v := 2) (by decide) ?_
    refine go_iadd dX9_map_128 ?_
    refine go_iald dX9_map_129 (show _ = some (1, 18368) from rfl) (o1 c1) ?_
    refine go_i2l dX9_map_130 ?_
    refine go_lmul dX9_map_131 ?_
    refine go_ladd dX9_map_132 ?_
    refine go_lstore dX9_map_133 (Nat.le_of_ble_eq_true rfl) ?_
    show sk_Go Γ (sk_M Γ m_X9_map Q) (0, 0) _ [some (.ref 20), some (.int x1), some (.int x2), some (.int x3), some (.long (x4 + (x9 * (Int32.toInt64 (hi 21 (Int32.toNatClampNeg ((4 + (3 * x8)) + 2))))))), none, some (.long (x6 + x9)), none, some (.int x8), some (.long x9), none, some (.int x11)] [] _
    refine go_iinc (v := x8 + 1) dX9_map_135 rfl rfl (Nat.le_of_ble_eq_true rfl) ?_
    show sk_Go Γ (sk_M Γ m_X9_map Q) (0, 0) _ [some (.ref 20), some (.int x1), some (.int x2), some (.int x3), some (.long (x4 + (x9 * (Int32.toInt64 (hi 21 (Int32.toNatClampNeg ((4 + (3 * x8)) + 2))))))), none, some (.long (x6 + x9)), none, some (.int (x8 + 1)), some (.long x9), none, some (.int x11)] [] _
    refine go_goto (tgt := 52) dX9_map_138 (by decide) ?_
    exact (go_wk (l1 c1) (show sk_le _ _ from (And.intro rfl (And.intro rfl (And.intro rfl (And.intro rfl (And.intro rfl (And.intro rfl (And.intro rfl trivial)))))))))
  · refine go_iload dX9_map_80 rfl ?_
    refine go_iload dX9_map_82 rfl ?_
    refine go_icmp_eq (tgt := 100) dX9_map_84 (by decide) (fun c2 => ?_) (fun c2 => ?_)
    · refine go_iinc (v := x11 + 1) dX9_map_100 rfl rfl (Nat.le_of_ble_eq_true rfl) ?_
      show sk_Go Γ (sk_M Γ m_X9_map Q) (0, 0) _ [some (.ref 20), some (.int x1), some (.int x2), some (.int x3), some (.long x4), none, some (.long x6), none, some (.int x8), some (.long x9), none, some (.int (x11 + 1))] [] _
      refine go_goto (tgt := 69) dX9_map_103 (by decide) ?_
      exact (l2 c1 c2)
    · refine go_lload dX9_map_87 rfl ?_
      refine go_aload_n dX9_map_89 rfl ?_
      refine go_iload dX9_map_90 rfl ?_
      refine go_iload_n dX9_map_92 rfl ?_
      refine go_iload_n dX9_map_93 rfl ?_
      refine go_callV (μ := m_X9_away) (n := 97) (T := TX9) (N := 10) [.int x11, .int x1, .int x2] dX9_map_94 ok_X9_away ml_X9_128 wx_X9_away wl_X9_away (show _ = some (0, 8) from rfl) rfl rfl (Nat.le_of_ble_eq_true rfl) ⟨Nat.le_of_ble_eq_true rfl, Nat.le_of_ble_eq_true rfl⟩ ⟨Nat.le_of_ble_eq_true rfl, Nat.le_of_ble_eq_true rfl⟩ rfl ?_
      exact (l3 c1 c2)
theorem k_X9_map_97 {x1 x2 x3 x8 x11 : Int32} {x4 x6 x9 s1 s0 : Int64} {hi : Nat → Nat → Int32}
    (l1 : sk_Go Γ (sk_M Γ m_X9_map Q) (0, 0) 69 [some (.ref 20), some (.int x1), some (.int x2), some (.int x3), some (.long x4), none, some (.long x6), none, some (.int x8), some (.long (s0 * s1)), none, some (.int (x11 + 1))] [] (hi, sk_hr rr, sk_ks ++ ex)) :
    sk_Go Γ (sk_M Γ m_X9_map Q) (0, 0) 97 [some (.ref 20), some (.int x1), some (.int x2), some (.int x3), some (.long x4), none, some (.long x6), none, some (.int x8), some (.long x9), none, some (.int x11)] [.long s1, .long s0] (hi, sk_hr rr, sk_ks ++ ex) := by
  refine go_lmul dX9_map_97 ?_
  refine go_lstore dX9_map_98 (Nat.le_of_ble_eq_true rfl) ?_
  show sk_Go Γ (sk_M Γ m_X9_map Q) (0, 0) _ [some (.ref 20), some (.int x1), some (.int x2), some (.int x3), some (.long x4), none, some (.long x6), none, some (.int x8), some (.long (s0 * s1)), none, some (.int x11)] [] _
  refine go_iinc (v := x11 + 1) dX9_map_100 rfl rfl (Nat.le_of_ble_eq_true rfl) ?_
  show sk_Go Γ (sk_M Γ m_X9_map Q) (0, 0) _ [some (.ref 20), some (.int x1), some (.int x2), some (.int x3), some (.long x4), none, some (.long x6), none, some (.int x8), some (.long (s0 * s1)), none, some (.int (x11 + 1))] [] _
  refine go_goto (tgt := 69) dX9_map_103 (by decide) ?_
  exact l1
theorem k_X9_count_0 {x1 : Int32} {hi : Nat → Nat → Int32}
    (l1 : sk_Go Γ (sk_M Γ m_X9_count Q) (0, 0) 7 [some (.ref 20), some (.int x1), some (.int 0), some (.int 0), some (.int 0), none] [] (hi, sk_hr rr, sk_ks ++ ex)) :
    sk_Go Γ (sk_M Γ m_X9_count Q) (0, 0) 0 [some (.ref 20), some (.int x1), none, none, none, none] [] (hi, sk_hr rr, sk_ks ++ ex) := by
  refine go_iconst dX9_count_0 (v := 0) (by decide) ?_
  refine go_istore_n dX9_count_1 (Nat.le_of_ble_eq_true rfl) ?_
  show sk_Go Γ (sk_M Γ m_X9_count Q) (0, 0) _ [some (.ref 20), some (.int x1), some (.int 0), none, none, none] [] _
  refine go_iconst dX9_count_2 (v := 0) (by decide) ?_
  refine go_istore_n dX9_count_3 (Nat.le_of_ble_eq_true rfl) ?_
  show sk_Go Γ (sk_M Γ m_X9_count Q) (0, 0) _ [some (.ref 20), some (.int x1), some (.int 0), some (.int 0), none, none] [] _
  refine go_iconst dX9_count_4 (v := 0) (by decide) ?_
  refine go_istore dX9_count_5 (Nat.le_of_ble_eq_true rfl) ?_
  show sk_Go Γ (sk_M Γ m_X9_count Q) (0, 0) _ [some (.ref 20), some (.int x1), some (.int 0), some (.int 0), some (.int 0), none] [] _
  exact l1
theorem k_X9_count_7 {x1 x2 x3 x4 : Int32} {hi : Nat → Nat → Int32}
    (l1 : (24 : Int32) ≤ x4 → (Int32.toInt x1 < 0 ∨ 13 < Int32.toInt x1) → Q (some (.int (-1))) (hi, sk_hr rr, sk_ks ++ ex))
    (l2 : (24 : Int32) ≤ x4 → x1 = 0 → Q (some (.int (hi 21 3))) (hi, sk_hr rr, sk_ks ++ ex))
    (l3 : (24 : Int32) ≤ x4 → x1 = 1 → Q (some (.int (hi 21 0))) (hi, sk_hr rr, sk_ks ++ ex))
    (l4 : (24 : Int32) ≤ x4 → x1 = 2 → Q (some (.int (hi 21 1))) (hi, sk_hr rr, sk_ks ++ ex))
    (l5 : (24 : Int32) ≤ x4 → x1 = 3 → Q (some (.int (hi 21 2))) (hi, sk_hr rr, sk_ks ++ ex))
    (l6 : (24 : Int32) ≤ x4 → x1 = 4 → Q (some (.int x2)) (hi, sk_hr rr, sk_ks ++ ex))
    (l7 : (24 : Int32) ≤ x4 → x1 = 5 → Q (some (.int x3)) (hi, sk_hr rr, sk_ks ++ ex))
    (l8 : (24 : Int32) ≤ x4 → x1 = 6 → Q (some (.int (-1))) (hi, sk_hr rr, sk_ks ++ ex))
    (l9 : (24 : Int32) ≤ x4 → x1 = 7 → Q (some (.int (-1))) (hi, sk_hr rr, sk_ks ++ ex))
    (l10 : (24 : Int32) ≤ x4 → x1 = 8 → Q (some (.int (-1))) (hi, sk_hr rr, sk_ks ++ ex))
    (l11 : (24 : Int32) ≤ x4 → x1 = 9 → Q (some (.int (-1))) (hi, sk_hr rr, sk_ks ++ ex))
    (l12 : (24 : Int32) ≤ x4 → x1 = 10 → sk_Go Γ (sk_M Γ m_X9_count Q) (0, 0) 194 [some (.ref 20), some (.int x1), some (.int x2), some (.int x3), some (.int 0), some (.int 0)] [] (hi, sk_hr rr, sk_ks ++ ex))
    (l13 : (24 : Int32) ≤ x4 → x1 = 11 → sk_Go Γ (sk_M Γ m_X9_count Q) (0, 0) 194 [some (.ref 20), some (.int x1), some (.int x2), some (.int x3), some (.int 0), some (.int 0)] [] (hi, sk_hr rr, sk_ks ++ ex))
    (l14 : (24 : Int32) ≤ x4 → x1 = 12 → sk_Go Γ (sk_M Γ m_X9_count Q) (0, 0) 194 [some (.ref 20), some (.int x1), some (.int x2), some (.int x3), some (.int 0), some (.int 0)] [] (hi, sk_hr rr, sk_ks ++ ex))
    (l15 : (24 : Int32) ≤ x4 → x1 = 13 → sk_Go Γ (sk_M Γ m_X9_count Q) (0, 0) 194 [some (.ref 20), some (.int x1), some (.int x2), some (.int x3), some (.int 0), some (.int 0)] [] (hi, sk_hr rr, sk_ks ++ ex))
    (l16 : ¬ (24 : Int32) ≤ x4 → sk_Ct Γ m_X9_present [.ref 20, .int x4] (hi, sk_hr rr, sk_ks ++ ex) (fun r h' => sk_Go Γ (sk_M Γ m_X9_count Q) (0, 0) 21 [some (.ref 20), some (.int x1), some (.int x2), some (.int x3), some (.int x4), none] (r.toList ++ [.int x2]) h')) :
    sk_Go Γ (sk_M Γ m_X9_count Q) (0, 0) 7 [some (.ref 20), some (.int x1), some (.int x2), some (.int x3), some (.int x4), none] [] (hi, sk_hr rr, sk_ks ++ ex) := by
  refine go_iload dX9_count_7 rfl ?_
  refine go_bipush dX9_count_9 (v := 24) (by decide) ?_
  refine go_icmp_ge (tgt := 85) dX9_count_11 (by decide) (fun c1 => ?_) (fun c1 => ?_)
  · refine go_iload_n dX9_count_85 rfl ?_
    by_cases c2 : (Int32.toInt x1 < 0 ∨ 13 < Int32.toInt x1)
    · refine go_tout (tgt := 233) dX9_count_86 c2 (by decide) ?_
      refine go_iconst dX9_count_233 (v := (-1)) (by decide) ?_
      exact go_iret (μ := m_X9_count) dX9_count_234 rfl (Nat.le_of_ble_eq_true rfl) (Nat.le_of_ble_eq_true rfl) (l1 c1 c2)
    · have hlo : ¬ Int32.toInt x1 < 0 := fun q => c2 (Or.inl q)
      have hhi : ¬ 13 < Int32.toInt x1 := fun q => c2 (Or.inr q)
      by_cases hc0 : Int32.toInt x1 = 0
      · have c2 : x1 = 0 := Int32.toInt_inj.mp hc0
        refine go_tin (tgt := 156) (off := 70) dX9_count_86 hlo hhi (by rw [hc0]; rfl) (by decide) ?_
        refine go_aload_n dX9_count_156 rfl ?_
        refine go_getR dX9_count_157 fl_X9_7 rfl rfl (show _ = some 21 from rfl) ?_
        refine go_iconst dX9_count_160 (v := 3) (by decide) ?_
        refine go_iald dX9_count_161 (show _ = some (1, 18368) from rfl) (show ¬ (_ ∨ _) by decide) ?_
        show sk_Go Γ (sk_M Γ m_X9_count Q) (0, 0) _ [some (.ref 20), some (.int x1), some (.int x2), some (.int x3), some (.int x4), none] [.int (hi 21 3)] _
        exact go_iret (μ := m_X9_count) dX9_count_162 rfl (Nat.le_of_ble_eq_true rfl) (Nat.le_of_ble_eq_true rfl) (l2 c1 c2)
      · skip
        by_cases hc1 : Int32.toInt x1 = 1
        · have c2 : x1 = 1 := Int32.toInt_inj.mp hc1
          refine go_tin (tgt := 163) (off := 77) dX9_count_86 hlo hhi (by rw [hc1]; rfl) (by decide) ?_
          refine go_aload_n dX9_count_163 rfl ?_
          refine go_getR dX9_count_164 fl_X9_7 rfl rfl (show _ = some 21 from rfl) ?_
          refine go_iconst dX9_count_167 (v := 0) (by decide) ?_
          refine go_iald dX9_count_168 (show _ = some (1, 18368) from rfl) (show ¬ (_ ∨ _) by decide) ?_
          show sk_Go Γ (sk_M Γ m_X9_count Q) (0, 0) _ [some (.ref 20), some (.int x1), some (.int x2), some (.int x3), some (.int x4), none] [.int (hi 21 0)] _
          exact go_iret (μ := m_X9_count) dX9_count_169 rfl (Nat.le_of_ble_eq_true rfl) (Nat.le_of_ble_eq_true rfl) (l3 c1 c2)
        · skip
          by_cases hc2 : Int32.toInt x1 = 2
          · have c2 : x1 = 2 := Int32.toInt_inj.mp hc2
            refine go_tin (tgt := 170) (off := 84) dX9_count_86 hlo hhi (by rw [hc2]; rfl) (by decide) ?_
            refine go_aload_n dX9_count_170 rfl ?_
            refine go_getR dX9_count_171 fl_X9_7 rfl rfl (show _ = some 21 from rfl) ?_
            refine go_iconst dX9_count_174 (v := 1) (by decide) ?_
            refine go_iald dX9_count_175 (show _ = some (1, 18368) from rfl) (show ¬ (_ ∨ _) by decide) ?_
            show sk_Go Γ (sk_M Γ m_X9_count Q) (0, 0) _ [some (.ref 20), some (.int x1), some (.int x2), some (.int x3), some (.int x4), none] [.int (hi 21 1)] _
            exact go_iret (μ := m_X9_count) dX9_count_176 rfl (Nat.le_of_ble_eq_true rfl) (Nat.le_of_ble_eq_true rfl) (l4 c1 c2)
          · skip
            by_cases hc3 : Int32.toInt x1 = 3
            · have c2 : x1 = 3 := Int32.toInt_inj.mp hc3
              refine go_tin (tgt := 177) (off := 91) dX9_count_86 hlo hhi (by rw [hc3]; rfl) (by decide) ?_
              refine go_aload_n dX9_count_177 rfl ?_
              refine go_getR dX9_count_178 fl_X9_7 rfl rfl (show _ = some 21 from rfl) ?_
              refine go_iconst dX9_count_181 (v := 2) (by decide) ?_
              refine go_iald dX9_count_182 (show _ = some (1, 18368) from rfl) (show ¬ (_ ∨ _) by decide) ?_
              show sk_Go Γ (sk_M Γ m_X9_count Q) (0, 0) _ [some (.ref 20), some (.int x1), some (.int x2), some (.int x3), some (.int x4), none] [.int (hi 21 2)] _
              exact go_iret (μ := m_X9_count) dX9_count_183 rfl (Nat.le_of_ble_eq_true rfl) (Nat.le_of_ble_eq_true rfl) (l5 c1 c2)
            · skip
              by_cases hc4 : Int32.toInt x1 = 4
              · have c2 : x1 = 4 := Int32.toInt_inj.mp hc4
                refine go_tin (tgt := 184) (off := 98) dX9_count_86 hlo hhi (by rw [hc4]; rfl) (by decide) ?_
                refine go_iload_n dX9_count_184 rfl ?_
                exact go_iret (μ := m_X9_count) dX9_count_185 rfl (Nat.le_of_ble_eq_true rfl) (Nat.le_of_ble_eq_true rfl) (l6 c1 c2)
              · skip
                by_cases hc5 : Int32.toInt x1 = 5
                · have c2 : x1 = 5 := Int32.toInt_inj.mp hc5
                  refine go_tin (tgt := 186) (off := 100) dX9_count_86 hlo hhi (by rw [hc5]; rfl) (by decide) ?_
                  refine go_iload_n dX9_count_186 rfl ?_
                  exact go_iret (μ := m_X9_count) dX9_count_187 rfl (Nat.le_of_ble_eq_true rfl) (Nat.le_of_ble_eq_true rfl) (l7 c1 c2)
                · skip
                  by_cases hc6 : Int32.toInt x1 = 6
                  · have c2 : x1 = 6 := Int32.toInt_inj.mp hc6
                    refine go_tin (tgt := 233) (off := 147) dX9_count_86 hlo hhi (by rw [hc6]; rfl) (by decide) ?_
                    refine go_iconst dX9_count_233 (v := (-1)) (by decide) ?_
                    exact go_iret (μ := m_X9_count) dX9_count_234 rfl (Nat.le_of_ble_eq_true rfl) (Nat.le_of_ble_eq_true rfl) (l8 c1 c2)
                  · skip
                    by_cases hc7 : Int32.toInt x1 = 7
                    · have c2 : x1 = 7 := Int32.toInt_inj.mp hc7
                      refine go_tin (tgt := 233) (off := 147) dX9_count_86 hlo hhi (by rw [hc7]; rfl) (by decide) ?_
                      refine go_iconst dX9_count_233 (v := (-1)) (by decide) ?_
                      exact go_iret (μ := m_X9_count) dX9_count_234 rfl (Nat.le_of_ble_eq_true rfl) (Nat.le_of_ble_eq_true rfl) (l9 c1 c2)
                    · skip
                      by_cases hc8 : Int32.toInt x1 = 8
                      · have c2 : x1 = 8 := Int32.toInt_inj.mp hc8
                        refine go_tin (tgt := 233) (off := 147) dX9_count_86 hlo hhi (by rw [hc8]; rfl) (by decide) ?_
                        refine go_iconst dX9_count_233 (v := (-1)) (by decide) ?_
                        exact go_iret (μ := m_X9_count) dX9_count_234 rfl (Nat.le_of_ble_eq_true rfl) (Nat.le_of_ble_eq_true rfl) (l10 c1 c2)
                      · skip
                        by_cases hc9 : Int32.toInt x1 = 9
                        · have c2 : x1 = 9 := Int32.toInt_inj.mp hc9
                          refine go_tin (tgt := 233) (off := 147) dX9_count_86 hlo hhi (by rw [hc9]; rfl) (by decide) ?_
                          refine go_iconst dX9_count_233 (v := (-1)) (by decide) ?_
                          exact go_iret (μ := m_X9_count) dX9_count_234 rfl (Nat.le_of_ble_eq_true rfl) (Nat.le_of_ble_eq_true rfl) (l11 c1 c2)
                        · skip
                          by_cases hc10 : Int32.toInt x1 = 10
                          · have c2 : x1 = 10 := Int32.toInt_inj.mp hc10
                            refine go_tin (tgt := 188) (off := 102) dX9_count_86 hlo hhi (by rw [hc10]; rfl) (by decide) ?_
                            refine go_iconst dX9_count_188 (v := 0) (by decide) ?_
                            refine go_istore dX9_count_189 (Nat.le_of_ble_eq_true rfl) ?_
                            show sk_Go Γ (sk_M Γ m_X9_count Q) (0, 0) _ [some (.ref 20), some (.int x1), some (.int x2), some (.int x3), some (.int 0), none] [] _
                            refine go_iconst dX9_count_191 (v := 0) (by decide) ?_
                            refine go_istore dX9_count_192 (Nat.le_of_ble_eq_true rfl) ?_
                            show sk_Go Γ (sk_M Γ m_X9_count Q) (0, 0) _ [some (.ref 20), some (.int x1), some (.int x2), some (.int x3), some (.int 0), some (.int 0)] [] _
                            exact (l12 c1 c2)
                          · skip
                            by_cases hc11 : Int32.toInt x1 = 11
                            · have c2 : x1 = 11 := Int32.toInt_inj.mp hc11
                              refine go_tin (tgt := 188) (off := 102) dX9_count_86 hlo hhi (by rw [hc11]; rfl) (by decide) ?_
                              refine go_iconst dX9_count_188 (v := 0) (by decide) ?_
                              refine go_istore dX9_count_189 (Nat.le_of_ble_eq_true rfl) ?_
                              show sk_Go Γ (sk_M Γ m_X9_count Q) (0, 0) _ [some (.ref 20), some (.int x1), some (.int x2), some (.int x3), some (.int 0), none] [] _
                              refine go_iconst dX9_count_191 (v := 0) (by decide) ?_
                              refine go_istore dX9_count_192 (Nat.le_of_ble_eq_true rfl) ?_
                              show sk_Go Γ (sk_M Γ m_X9_count Q) (0, 0) _ [some (.ref 20), some (.int x1), some (.int x2), some (.int x3), some (.int 0), some (.int 0)] [] _
                              exact (l13 c1 c2)
                            · skip
                              by_cases hc12 : Int32.toInt x1 = 12
                              · have c2 : x1 = 12 := Int32.toInt_inj.mp hc12
                                refine go_tin (tgt := 188) (off := 102) dX9_count_86 hlo hhi (by rw [hc12]; rfl) (by decide) ?_
                                refine go_iconst dX9_count_188 (v := 0) (by decide) ?_
                                refine go_istore dX9_count_189 (Nat.le_of_ble_eq_true rfl) ?_
                                show sk_Go Γ (sk_M Γ m_X9_count Q) (0, 0) _ [some (.ref 20), some (.int x1), some (.int x2), some (.int x3), some (.int 0), none] [] _
                                refine go_iconst dX9_count_191 (v := 0) (by decide) ?_
                                refine go_istore dX9_count_192 (Nat.le_of_ble_eq_true rfl) ?_
                                show sk_Go Γ (sk_M Γ m_X9_count Q) (0, 0) _ [some (.ref 20), some (.int x1), some (.int x2), some (.int x3), some (.int 0), some (.int 0)] [] _
                                exact (l14 c1 c2)
                              · skip
                                have hc13 : Int32.toInt x1 = 13 := by omega
                                have c2 : x1 = 13 := Int32.toInt_inj.mp hc13
                                refine go_tin (tgt := 188) (off := 102) dX9_count_86 hlo hhi (by rw [hc13]; rfl) (by decide) ?_
                                refine go_iconst dX9_count_188 (v := 0) (by decide) ?_
                                refine go_istore dX9_count_189 (Nat.le_of_ble_eq_true rfl) ?_
                                show sk_Go Γ (sk_M Γ m_X9_count Q) (0, 0) _ [some (.ref 20), some (.int x1), some (.int x2), some (.int x3), some (.int 0), none] [] _
                                refine go_iconst dX9_count_191 (v := 0) (by decide) ?_
                                refine go_istore dX9_count_192 (Nat.le_of_ble_eq_true rfl) ?_
                                show sk_Go Γ (sk_M Γ m_X9_count Q) (0, 0) _ [some (.ref 20), some (.int x1), some (.int x2), some (.int x3), some (.int 0), some (.int 0)] [] _
                                exact (l15 c1 c2)
  · refine go_iload_n dX9_count_14 rfl ?_
    refine go_aload_n dX9_count_15 rfl ?_
    refine go_iload dX9_count_16 rfl ?_
    refine go_callV (μ := m_X9_present) (n := 21) (T := TX9) (N := 10) [.int x4] dX9_count_18 ok_X9_present ml_X9_105 wx_X9_present wl_X9_present (show _ = some (0, 8) from rfl) rfl rfl (Nat.le_of_ble_eq_true rfl) ⟨Nat.le_of_ble_eq_true rfl, Nat.le_of_ble_eq_true rfl⟩ ⟨Nat.le_of_ble_eq_true rfl, Nat.le_of_ble_eq_true rfl⟩ rfl ?_
    exact (l16 c1)
theorem k_X9_count_21 {x1 x2 x3 x4 s1 s0 : Int32} {hi : Nat → Nat → Int32}
    (l1 : sk_Go Γ (sk_M Γ m_X9_count Q) (0, 0) 26 [some (.ref 20), some (.int x1), some (.int (s0 + s1)), some (.int x3), some (.int x4), some (.int 0)] [] (hi, sk_hr rr, sk_ks ++ ex)) :
    sk_Go Γ (sk_M Γ m_X9_count Q) (0, 0) 21 [some (.ref 20), some (.int x1), some (.int x2), some (.int x3), some (.int x4), none] [.int s1, .int s0] (hi, sk_hr rr, sk_ks ++ ex) := by
  refine go_iadd dX9_count_21 ?_
  refine go_istore_n dX9_count_22 (Nat.le_of_ble_eq_true rfl) ?_
  show sk_Go Γ (sk_M Γ m_X9_count Q) (0, 0) _ [some (.ref 20), some (.int x1), some (.int (s0 + s1)), some (.int x3), some (.int x4), none] [] _
  refine go_iconst dX9_count_23 (v := 0) (by decide) ?_
  refine go_istore dX9_count_24 (Nat.le_of_ble_eq_true rfl) ?_
  show sk_Go Γ (sk_M Γ m_X9_count Q) (0, 0) _ [some (.ref 20), some (.int x1), some (.int (s0 + s1)), some (.int x3), some (.int x4), some (.int 0)] [] _
  exact l1
theorem k_X9_count_26 {x1 x2 x3 x4 x5 : Int32} {hi : Nat → Nat → Int32}
    (l1 : (31 : Int32) ≤ x5 → sk_Go Γ (sk_M Γ m_X9_count Q) (0, 0) 7 [some (.ref 20), some (.int x1), some (.int x2), some (.int x3), some (.int (x4 + 1)), none] [] (hi, sk_hr rr, sk_ks ++ ex))
    (l2 : ¬ (31 : Int32) ≤ x5 → sk_Ct Γ m_X9_cell [.int x4, .int x5] (hi, sk_hr rr, sk_ks ++ ex) (fun r h' => sk_Go Γ (sk_M Γ m_X9_count Q) (0, 0) 45 [some (.ref 20), some (.int x1), some (.int x2), some (.int x3), some (.int x4), some (.int x5)] (r.toList ++ [.ref 21, .int x3]) h')) :
    sk_Go Γ (sk_M Γ m_X9_count Q) (0, 0) 26 [some (.ref 20), some (.int x1), some (.int x2), some (.int x3), some (.int x4), some (.int x5)] [] (hi, sk_hr rr, sk_ks ++ ex) := by
  refine go_iload dX9_count_26 rfl ?_
  refine go_bipush dX9_count_28 (v := 31) (by decide) ?_
  refine go_icmp_ge (tgt := 79) dX9_count_30 (by decide) (fun c1 => ?_) (fun c1 => ?_)
  · refine go_iinc (v := x4 + 1) dX9_count_79 rfl rfl (Nat.le_of_ble_eq_true rfl) ?_
    show sk_Go Γ (sk_M Γ m_X9_count Q) (0, 0) _ [some (.ref 20), some (.int x1), some (.int x2), some (.int x3), some (.int (x4 + 1)), some (.int x5)] [] _
    refine go_goto (tgt := 7) dX9_count_82 (by decide) ?_
    exact (go_wk (l1 c1) (show sk_le _ _ from (And.intro rfl (And.intro rfl (And.intro rfl (And.intro rfl (And.intro rfl trivial)))))))
  · refine go_iload_n dX9_count_33 rfl ?_
    refine go_aload_n dX9_count_34 rfl ?_
    refine go_getR dX9_count_35 fl_X9_7 rfl rfl (show _ = some 21 from rfl) ?_
    refine go_iload dX9_count_38 rfl ?_
    refine go_iload dX9_count_40 rfl ?_
    refine go_callS (μ := m_X9_cell) (n := 45) [.int x4, .int x5] dX9_count_42 ok_X9_cell ml_X9_95 wx_X9_cell rfl (Nat.le_of_ble_eq_true rfl) ⟨Nat.le_of_ble_eq_true rfl, Nat.le_of_ble_eq_true rfl⟩ ⟨Nat.le_of_ble_eq_true rfl, Nat.le_of_ble_eq_true rfl⟩ rfl ?_
    exact (l2 c1)
theorem k_X9_count_45 {x1 x2 x3 x4 x5 s2 s0 : Int32} {hi : Nat → Nat → Int32}
    (o1 : vp_in s2 18368)
    (l1 : (hi 21 (Int32.toNatClampNeg s2)) < (0 : Int32) → sk_Go Γ (sk_M Γ m_X9_count Q) (0, 0) 26 [some (.ref 20), some (.int x1), some (.int x2), some (.int (s0 + 0)), some (.int x4), some (.int (x5 + 1))] [] (hi, sk_hr rr, sk_ks ++ ex))
    (l2 : ¬ (hi 21 (Int32.toNatClampNeg s2)) < (0 : Int32) → sk_Ct Γ m_X9_cell [.int x4, .int x5] (hi, sk_hr rr, sk_ks ++ ex) (fun r h' => sk_Go Γ (sk_M Γ m_X9_count Q) (0, 0) 60 [some (.ref 20), some (.int x1), some (.int x2), some (.int x3), some (.int x4), some (.int x5)] (r.toList ++ [.ref 21, .int s0]) h')) :
    sk_Go Γ (sk_M Γ m_X9_count Q) (0, 0) 45 [some (.ref 20), some (.int x1), some (.int x2), some (.int x3), some (.int x4), some (.int x5)] [.int s2, .ref 21, .int s0] (hi, sk_hr rr, sk_ks ++ ex) := by
  refine go_iald dX9_count_45 (show _ = some (1, 18368) from rfl) o1 ?_
  refine go_if_lt (tgt := 70) dX9_count_46 (by decide) (fun c1 => ?_) (fun c1 => ?_)
  · refine go_iconst dX9_count_70 (v := 0) (by decide) ?_
    refine go_iadd dX9_count_71 ?_
    refine go_istore_n dX9_count_72 (Nat.le_of_ble_eq_true rfl) ?_
    show sk_Go Γ (sk_M Γ m_X9_count Q) (0, 0) _ [some (.ref 20), some (.int x1), some (.int x2), some (.int (s0 + 0)), some (.int x4), some (.int x5)] [] _
    refine go_iinc (v := x5 + 1) dX9_count_73 rfl rfl (Nat.le_of_ble_eq_true rfl) ?_
    show sk_Go Γ (sk_M Γ m_X9_count Q) (0, 0) _ [some (.ref 20), some (.int x1), some (.int x2), some (.int (s0 + 0)), some (.int x4), some (.int (x5 + 1))] [] _
    refine go_goto (tgt := 26) dX9_count_76 (by decide) ?_
    exact (l1 c1)
  · refine go_aload_n dX9_count_49 rfl ?_
    refine go_getR dX9_count_50 fl_X9_7 rfl rfl (show _ = some 21 from rfl) ?_
    refine go_iload dX9_count_53 rfl ?_
    refine go_iload dX9_count_55 rfl ?_
    refine go_callS (μ := m_X9_cell) (n := 60) [.int x4, .int x5] dX9_count_57 ok_X9_cell ml_X9_95 wx_X9_cell rfl (Nat.le_of_ble_eq_true rfl) ⟨Nat.le_of_ble_eq_true rfl, Nat.le_of_ble_eq_true rfl⟩ ⟨Nat.le_of_ble_eq_true rfl, Nat.le_of_ble_eq_true rfl⟩ rfl ?_
    exact (l2 c1)
theorem k_X9_count_60 {x1 x2 x3 x4 x5 s2 s0 : Int32} {hi : Nat → Nat → Int32}
    (o1 : vp_in (s2 + 1) 18368)
    (l1 : (hi 21 (Int32.toNatClampNeg (s2 + 1))) ≤ (0 : Int32) → sk_Go Γ (sk_M Γ m_X9_count Q) (0, 0) 26 [some (.ref 20), some (.int x1), some (.int x2), some (.int (s0 + 0)), some (.int x4), some (.int (x5 + 1))] [] (hi, sk_hr rr, sk_ks ++ ex))
    (l2 : ¬ (hi 21 (Int32.toNatClampNeg (s2 + 1))) ≤ (0 : Int32) → sk_Go Γ (sk_M Γ m_X9_count Q) (0, 0) 26 [some (.ref 20), some (.int x1), some (.int x2), some (.int (s0 + 1)), some (.int x4), some (.int (x5 + 1))] [] (hi, sk_hr rr, sk_ks ++ ex)) :
    sk_Go Γ (sk_M Γ m_X9_count Q) (0, 0) 60 [some (.ref 20), some (.int x1), some (.int x2), some (.int x3), some (.int x4), some (.int x5)] [.int s2, .ref 21, .int s0] (hi, sk_hr rr, sk_ks ++ ex) := by
  refine go_iconst dX9_count_60 (v := 1) (by decide) ?_
  refine go_iadd dX9_count_61 ?_
  refine go_iald dX9_count_62 (show _ = some (1, 18368) from rfl) o1 ?_
  refine go_if_le (tgt := 70) dX9_count_63 (by decide) (fun c1 => ?_) (fun c1 => ?_)
  · refine go_iconst dX9_count_70 (v := 0) (by decide) ?_
    refine go_iadd dX9_count_71 ?_
    refine go_istore_n dX9_count_72 (Nat.le_of_ble_eq_true rfl) ?_
    show sk_Go Γ (sk_M Γ m_X9_count Q) (0, 0) _ [some (.ref 20), some (.int x1), some (.int x2), some (.int (s0 + 0)), some (.int x4), some (.int x5)] [] _
    refine go_iinc (v := x5 + 1) dX9_count_73 rfl rfl (Nat.le_of_ble_eq_true rfl) ?_
    show sk_Go Γ (sk_M Γ m_X9_count Q) (0, 0) _ [some (.ref 20), some (.int x1), some (.int x2), some (.int (s0 + 0)), some (.int x4), some (.int (x5 + 1))] [] _
    refine go_goto (tgt := 26) dX9_count_76 (by decide) ?_
    exact (l1 c1)
  · refine go_iconst dX9_count_66 (v := 1) (by decide) ?_
    refine go_goto (tgt := 71) dX9_count_67 (by decide) ?_
    refine go_iadd dX9_count_71 ?_
    refine go_istore_n dX9_count_72 (Nat.le_of_ble_eq_true rfl) ?_
    show sk_Go Γ (sk_M Γ m_X9_count Q) (0, 0) _ [some (.ref 20), some (.int x1), some (.int x2), some (.int (s0 + 1)), some (.int x4), some (.int x5)] [] _
    refine go_iinc (v := x5 + 1) dX9_count_73 rfl rfl (Nat.le_of_ble_eq_true rfl) ?_
    show sk_Go Γ (sk_M Γ m_X9_count Q) (0, 0) _ [some (.ref 20), some (.int x1), some (.int x2), some (.int (s0 + 1)), some (.int x4), some (.int (x5 + 1))] [] _
    refine go_goto (tgt := 26) dX9_count_76 (by decide) ?_
    exact (l2 c1)
theorem k_X9_count_194 {x1 x2 x3 x4 x5 : Int32} {hi : Nat → Nat → Int32}
    (l1 : (24 : Int32) ≤ x5 → Q (some (.int x4)) (hi, sk_hr rr, sk_ks ++ ex))
    (l2 : ¬ (24 : Int32) ≤ x5 → sk_Ct Γ m_X9_isBarred [.ref 20, .int (x1 - 10), .int x5] (hi, sk_hr rr, sk_ks ++ ex) (fun r h' => sk_Go Γ (sk_M Γ m_X9_count Q) (0, 0) 213 [some (.ref 20), some (.int x1), some (.int x2), some (.int x3), some (.int x4), some (.int x5)] (r.toList ++ [.int x4]) h')) :
    sk_Go Γ (sk_M Γ m_X9_count Q) (0, 0) 194 [some (.ref 20), some (.int x1), some (.int x2), some (.int x3), some (.int x4), some (.int x5)] [] (hi, sk_hr rr, sk_ks ++ ex) := by
  refine go_iload dX9_count_194 rfl ?_
  refine go_bipush dX9_count_196 (v := 24) (by decide) ?_
  refine go_icmp_ge (tgt := 230) dX9_count_198 (by decide) (fun c1 => ?_) (fun c1 => ?_)
  · refine go_iload dX9_count_230 rfl ?_
    exact go_iret (μ := m_X9_count) dX9_count_232 rfl (Nat.le_of_ble_eq_true rfl) (Nat.le_of_ble_eq_true rfl) (l1 c1)
  · refine go_iload dX9_count_201 rfl ?_
    refine go_aload_n dX9_count_203 rfl ?_
    refine go_iload_n dX9_count_204 rfl ?_
    refine go_bipush dX9_count_205 (v := 10) (by decide) ?_
    refine go_isub dX9_count_207 ?_
    refine go_iload dX9_count_208 rfl ?_
    refine go_callV (μ := m_X9_isBarred) (n := 213) (T := TX9) (N := 10) [.int (x1 - 10), .int x5] dX9_count_210 ok_X9_isBarred ml_X9_47 wx_X9_isBarred wl_X9_isBarred (show _ = some (0, 8) from rfl) rfl rfl (Nat.le_of_ble_eq_true rfl) ⟨Nat.le_of_ble_eq_true rfl, Nat.le_of_ble_eq_true rfl⟩ ⟨Nat.le_of_ble_eq_true rfl, Nat.le_of_ble_eq_true rfl⟩ rfl ?_
    exact (l2 c1)
theorem k_X9_count_213 {x1 x2 x3 x4 x5 s1 s0 : Int32} {hi : Nat → Nat → Int32}
    (l1 : s1 = (0 : Int32) → sk_Go Γ (sk_M Γ m_X9_count Q) (0, 0) 194 [some (.ref 20), some (.int x1), some (.int x2), some (.int x3), some (.int (s0 + 0)), some (.int (x5 + 1))] [] (hi, sk_hr rr, sk_ks ++ ex))
    (l2 : ¬ s1 = (0 : Int32) → sk_Go Γ (sk_M Γ m_X9_count Q) (0, 0) 194 [some (.ref 20), some (.int x1), some (.int x2), some (.int x3), some (.int (s0 + 1)), some (.int (x5 + 1))] [] (hi, sk_hr rr, sk_ks ++ ex)) :
    sk_Go Γ (sk_M Γ m_X9_count Q) (0, 0) 213 [some (.ref 20), some (.int x1), some (.int x2), some (.int x3), some (.int x4), some (.int x5)] [.int s1, .int s0] (hi, sk_hr rr, sk_ks ++ ex) := by
  refine go_if_eq (tgt := 220) dX9_count_213 (by decide) (fun c1 => ?_) (fun c1 => ?_)
  · refine go_iconst dX9_count_220 (v := 0) (by decide) ?_
    refine go_iadd dX9_count_221 ?_
    refine go_istore dX9_count_222 (Nat.le_of_ble_eq_true rfl) ?_
    show sk_Go Γ (sk_M Γ m_X9_count Q) (0, 0) _ [some (.ref 20), some (.int x1), some (.int x2), some (.int x3), some (.int (s0 + 0)), some (.int x5)] [] _
    refine go_iinc (v := x5 + 1) dX9_count_224 rfl rfl (Nat.le_of_ble_eq_true rfl) ?_
    show sk_Go Γ (sk_M Γ m_X9_count Q) (0, 0) _ [some (.ref 20), some (.int x1), some (.int x2), some (.int x3), some (.int (s0 + 0)), some (.int (x5 + 1))] [] _
    refine go_goto (tgt := 194) dX9_count_227 (by decide) ?_
    exact (l1 c1)
  · refine go_iconst dX9_count_216 (v := 1) (by decide) ?_
    refine go_goto (tgt := 221) dX9_count_217 (by decide) ?_
    refine go_iadd dX9_count_221 ?_
    refine go_istore dX9_count_222 (Nat.le_of_ble_eq_true rfl) ?_
    show sk_Go Γ (sk_M Γ m_X9_count Q) (0, 0) _ [some (.ref 20), some (.int x1), some (.int x2), some (.int x3), some (.int (s0 + 1)), some (.int x5)] [] _
    refine go_iinc (v := x5 + 1) dX9_count_224 rfl rfl (Nat.le_of_ble_eq_true rfl) ?_
    show sk_Go Γ (sk_M Γ m_X9_count Q) (0, 0) _ [some (.ref 20), some (.int x1), some (.int x2), some (.int x3), some (.int (s0 + 1)), some (.int (x5 + 1))] [] _
    refine go_goto (tgt := 194) dX9_count_227 (by decide) ?_
    exact (l2 c1)
theorem k_X9_image_0 {x1 : Int32} {hi : Nat → Nat → Int32}
    (l1 : sk_Ct Γ m_X9_isIn [.int x1, .int 0, .int 2] (hi, sk_hr rr, sk_ks ++ ex) (fun r h' => sk_Go Γ (sk_M Γ m_X9_image Q) (0, 0) 6 [some (.ref 20), some (.int x1), none] (r.toList ++ []) h')) :
    sk_Go Γ (sk_M Γ m_X9_image Q) (0, 0) 0 [some (.ref 20), some (.int x1), none] [] (hi, sk_hr rr, sk_ks ++ ex) := by
  refine go_iload_n dX9_image_0 rfl ?_
  refine go_iconst dX9_image_1 (v := 0) (by decide) ?_
  refine go_iconst dX9_image_2 (v := 2) (by decide) ?_
  refine go_callS (μ := m_X9_isIn) (n := 6) [.int x1, .int 0, .int 2] dX9_image_3 ok_X9_isIn ml_X9_32 wx_X9_isIn rfl (Nat.le_of_ble_eq_true rfl) ⟨Nat.le_of_ble_eq_true rfl, Nat.le_of_ble_eq_true rfl⟩ ⟨Nat.le_of_ble_eq_true rfl, Nat.le_of_ble_eq_true rfl⟩ rfl ?_
  exact l1
theorem k_X9_image_6 {x1 s0 : Int32} {hi : Nat → Nat → Int32}
    (o1 : ¬ s0 = (0 : Int32) → vp_in x1 3)
    (l1 : ¬ s0 = (0 : Int32) → sk_Go Γ (sk_M Γ m_X9_image Q) (0, 0) 20 [some (.ref 20), some (.int x1), some (.int 0)] [] ((sk_wi hi 22 (Int32.toNatClampNeg x1) 1), sk_hr rr, sk_ks ++ ex))
    (l2 : s0 = (0 : Int32) → Q (some (.int 0)) (hi, sk_hr rr, sk_ks ++ ex)) :
    sk_Go Γ (sk_M Γ m_X9_image Q) (0, 0) 6 [some (.ref 20), some (.int x1), none] [.int s0] (hi, sk_hr rr, sk_ks ++ ex) := by
  refine go_if_ne (tgt := 11) dX9_image_6 (by decide) (fun c1 => ?_) (fun c1 => ?_)
  · refine go_aload_n dX9_image_11 rfl ?_
    refine go_getR dX9_image_12 fl_X9_13 rfl rfl (show _ = some 22 from rfl) ?_
    refine go_iload_n dX9_image_15 rfl ?_
    refine go_iconst dX9_image_16 (v := 1) (by decide) ?_
    refine go_zast dX9_image_17 (show _ = some (2, 3) from rfl) (o1 c1) rfl ?_
    refine go_iconst dX9_image_18 (v := 0) (by decide) ?_
    refine go_istore_n dX9_image_19 (Nat.le_of_ble_eq_true rfl) ?_
    show sk_Go Γ (sk_M Γ m_X9_image Q) (0, 0) _ [some (.ref 20), some (.int x1), some (.int 0)] [] _
    exact (l1 c1)
  · refine go_iconst dX9_image_9 (v := 0) (by decide) ?_
    exact go_zret (μ := m_X9_image) dX9_image_10 rfl rfl (Nat.le_of_ble_eq_true rfl) (Nat.le_of_ble_eq_true rfl) (l2 c1)
theorem k_X9_image_20 {x1 x2 : Int32} {hi : Nat → Nat → Int32}
    (l1 : (4592 : Int32) ≤ x2 → Q (some (.int 1)) (hi, sk_hr rr, sk_ks ++ ex))
    (o1 : ¬ (4592 : Int32) ≤ x2 → vp_in x2 18368)
    (o2 : ¬ (4592 : Int32) ≤ x2 → vp_in ((4592 * (x1 + 1)) + x2) 18368)
    (l2 : ¬ (4592 : Int32) ≤ x2 → sk_Go Γ (sk_M Γ m_X9_image Q) (0, 0) 20 [some (.ref 20), some (.int x1), some (.int (x2 + 1))] [] ((sk_wi hi 21 (Int32.toNatClampNeg ((4592 * (x1 + 1)) + x2)) (hi 21 (Int32.toNatClampNeg x2))), sk_hr rr, sk_ks ++ ex)) :
    sk_Go Γ (sk_M Γ m_X9_image Q) (0, 0) 20 [some (.ref 20), some (.int x1), some (.int x2)] [] (hi, sk_hr rr, sk_ks ++ ex) := by
  refine go_iload_n dX9_image_20 rfl ?_
  refine go_sipush dX9_image_21 (v := 4592) (by decide) ?_
  refine go_icmp_ge (tgt := 53) dX9_image_24 (by decide) (fun c1 => ?_) (fun c1 => ?_)
  · refine go_iconst dX9_image_53 (v := 1) (by decide) ?_
    exact go_zret (μ := m_X9_image) dX9_image_54 rfl rfl (Nat.le_of_ble_eq_true rfl) (Nat.le_of_ble_eq_true rfl) (l1 c1)
  · refine go_aload_n dX9_image_27 rfl ?_
    refine go_getR dX9_image_28 fl_X9_7 rfl rfl (show _ = some 21 from rfl) ?_
    refine go_sipush dX9_image_31 (v := 4592) (by decide) ?_
    refine go_iload_n dX9_image_34 rfl ?_
    refine go_iconst dX9_image_35 (v := 1) (by decide) ?_
    refine go_iadd dX9_image_36 ?_
    refine go_imul dX9_image_37 ?_
    refine go_iload_n dX9_image_38 rfl ?_
    refine go_iadd dX9_image_39 ?_
    refine go_aload_n dX9_image_40 rfl ?_
    refine go_getR dX9_image_41 fl_X9_7 rfl rfl (show _ = some 21 from rfl) ?_
    refine go_iload_n dX9_image_44 rfl ?_
    refine go_iald dX9_image_45 (show _ = some (1, 18368) from rfl) (o1 c1) ?_
    refine go_iast dX9_image_46 (show _ = some (1, 18368) from rfl) (o2 c1) ?_
    refine go_iinc (v := x2 + 1) dX9_image_47 rfl rfl (Nat.le_of_ble_eq_true rfl) ?_
    show sk_Go Γ (sk_M Γ m_X9_image Q) (0, 0) _ [some (.ref 20), some (.int x1), some (.int (x2 + 1))] [] _
    refine go_goto (tgt := 20) dX9_image_50 (by decide) ?_
    exact (l2 c1)
theorem k_X9_again_0 {x1 : Int32} {hi : Nat → Nat → Int32}
    (l1 : sk_Ct Γ m_X9_isIn [.int x1, .int 0, .int 2] (hi, sk_hr rr, sk_ks ++ ex) (fun r h' => sk_Go Γ (sk_M Γ m_X9_again Q) (0, 0) 6 [some (.ref 20), some (.int x1), none] (r.toList ++ []) h')) :
    sk_Go Γ (sk_M Γ m_X9_again Q) (0, 0) 0 [some (.ref 20), some (.int x1), none] [] (hi, sk_hr rr, sk_ks ++ ex) := by
  refine go_iload_n dX9_again_0 rfl ?_
  refine go_iconst dX9_again_1 (v := 0) (by decide) ?_
  refine go_iconst dX9_again_2 (v := 2) (by decide) ?_
  refine go_callS (μ := m_X9_isIn) (n := 6) [.int x1, .int 0, .int 2] dX9_again_3 ok_X9_isIn ml_X9_32 wx_X9_isIn rfl (Nat.le_of_ble_eq_true rfl) ⟨Nat.le_of_ble_eq_true rfl, Nat.le_of_ble_eq_true rfl⟩ ⟨Nat.le_of_ble_eq_true rfl, Nat.le_of_ble_eq_true rfl⟩ rfl ?_
  exact l1
theorem k_X9_again_6 {x1 s0 : Int32} {hi : Nat → Nat → Int32}
    (l1 : s0 = (0 : Int32) → Q (some (.int 0)) (hi, sk_hr rr, sk_ks ++ ex))
    (o1 : ¬ s0 = (0 : Int32) → vp_in x1 3)
    (l2 : ¬ s0 = (0 : Int32) → ¬ (hi 22 (Int32.toNatClampNeg x1)) = (0 : Int32) → sk_Go Γ (sk_M Γ m_X9_again Q) (0, 0) 22 [some (.ref 20), some (.int x1), some (.int 0)] [] (hi, sk_hr rr, sk_ks ++ ex))
    (l3 : ¬ s0 = (0 : Int32) → (hi 22 (Int32.toNatClampNeg x1)) = (0 : Int32) → Q (some (.int 0)) (hi, sk_hr rr, sk_ks ++ ex)) :
    sk_Go Γ (sk_M Γ m_X9_again Q) (0, 0) 6 [some (.ref 20), some (.int x1), none] [.int s0] (hi, sk_hr rr, sk_ks ++ ex) := by
  refine go_if_eq (tgt := 18) dX9_again_6 (by decide) (fun c1 => ?_) (fun c1 => ?_)
  · refine go_iconst dX9_again_18 (v := 0) (by decide) ?_
    exact go_zret (μ := m_X9_again) dX9_again_19 rfl rfl (Nat.le_of_ble_eq_true rfl) (Nat.le_of_ble_eq_true rfl) (l1 c1)
  · refine go_aload_n dX9_again_9 rfl ?_
    refine go_getR dX9_again_10 fl_X9_13 rfl rfl (show _ = some 22 from rfl) ?_
    refine go_iload_n dX9_again_13 rfl ?_
    refine go_zald dX9_again_14 (show _ = some (2, 3) from rfl) (o1 c1) ?_
    refine go_if_ne (tgt := 20) dX9_again_15 (by decide) (fun c2 => ?_) (fun c2 => ?_)
    · refine go_iconst dX9_again_20 (v := 0) (by decide) ?_
      refine go_istore_n dX9_again_21 (Nat.le_of_ble_eq_true rfl) ?_
      show sk_Go Γ (sk_M Γ m_X9_again Q) (0, 0) _ [some (.ref 20), some (.int x1), some (.int 0)] [] _
      exact (l2 c1 c2)
    · refine go_iconst dX9_again_18 (v := 0) (by decide) ?_
      exact go_zret (μ := m_X9_again) dX9_again_19 rfl rfl (Nat.le_of_ble_eq_true rfl) (Nat.le_of_ble_eq_true rfl) (l3 c1 c2)
theorem k_X9_again_22 {x1 x2 : Int32} {hi : Nat → Nat → Int32}
    (l1 : (4592 : Int32) ≤ x2 → Q (some (.int 1)) (hi, sk_hr rr, sk_ks ++ ex))
    (o1 : ¬ (4592 : Int32) ≤ x2 → vp_in ((4592 * (x1 + 1)) + x2) 18368)
    (o2 : ¬ (4592 : Int32) ≤ x2 → vp_in x2 18368)
    (l2 : ¬ (4592 : Int32) ≤ x2 → sk_Go Γ (sk_M Γ m_X9_again Q) (0, 0) 22 [some (.ref 20), some (.int x1), some (.int (x2 + 1))] [] ((sk_wi hi 21 (Int32.toNatClampNeg x2) (hi 21 (Int32.toNatClampNeg ((4592 * (x1 + 1)) + x2)))), sk_hr rr, sk_ks ++ ex)) :
    sk_Go Γ (sk_M Γ m_X9_again Q) (0, 0) 22 [some (.ref 20), some (.int x1), some (.int x2)] [] (hi, sk_hr rr, sk_ks ++ ex) := by
  refine go_iload_n dX9_again_22 rfl ?_
  refine go_sipush dX9_again_23 (v := 4592) (by decide) ?_
  refine go_icmp_ge (tgt := 55) dX9_again_26 (by decide) (fun c1 => ?_) (fun c1 => ?_)
  · refine go_iconst dX9_again_55 (v := 1) (by decide) ?_
    exact go_zret (μ := m_X9_again) dX9_again_56 rfl rfl (Nat.le_of_ble_eq_true rfl) (Nat.le_of_ble_eq_true rfl) (l1 c1)
  · refine go_aload_n dX9_again_29 rfl ?_
    refine go_getR dX9_again_30 fl_X9_7 rfl rfl (show _ = some 21 from rfl) ?_
    refine go_iload_n dX9_again_33 rfl ?_
    refine go_aload_n dX9_again_34 rfl ?_
    refine go_getR dX9_again_35 fl_X9_7 rfl rfl (show _ = some 21 from rfl) ?_
    refine go_sipush dX9_again_38 (v := 4592) (by decide) ?_
    refine go_iload_n dX9_again_41 rfl ?_
    refine go_iconst dX9_again_42 (v := 1) (by decide) ?_
    refine go_iadd dX9_again_43 ?_
    refine go_imul dX9_again_44 ?_
    refine go_iload_n dX9_again_45 rfl ?_
    refine go_iadd dX9_again_46 ?_
    refine go_iald dX9_again_47 (show _ = some (1, 18368) from rfl) (o1 c1) ?_
    refine go_iast dX9_again_48 (show _ = some (1, 18368) from rfl) (o2 c1) ?_
    refine go_iinc (v := x2 + 1) dX9_again_49 rfl rfl (Nat.le_of_ble_eq_true rfl) ?_
    show sk_Go Γ (sk_M Γ m_X9_again Q) (0, 0) _ [some (.ref 20), some (.int x1), some (.int (x2 + 1))] [] _
    refine go_goto (tgt := 22) dX9_again_52 (by decide) ?_
    exact (l2 c1)
end BLK
