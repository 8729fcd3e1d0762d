section BLK
variable {Γ : sk_Cx} {Q : Option Value → sk_Hp → Prop} {rr : Nat → Nat → Option Nat} {ex : List (Nat × Nat)}
theorem k_X8_within_0 {x0 x1 x2 : Int32} {hi : Nat → Nat → Int32}
    (l1 : x0 < x1 → Q (some (.int 0)) (hi, sk_hr rr, sk_ks ++ ex))
    (l2 : ¬ x0 < x1 → x2 < x0 → Q (some (.int 0)) (hi, sk_hr rr, sk_ks ++ ex))
    (l3 : ¬ x0 < x1 → ¬ x2 < x0 → Q (some (.int 1)) (hi, sk_hr rr, sk_ks ++ ex)) :
    sk_Go Γ (sk_M Γ m_X8_within Q) (0, 0) 0 [some (.int x0), some (.int x1), some (.int x2)] [] (hi, sk_hr rr, sk_ks ++ ex) := by
  refine go_iload_n dX8_within_0 rfl ?_
  refine go_iload_n dX8_within_1 rfl ?_
  refine go_icmp_lt (tgt := 14) dX8_within_2 (by decide) (fun c1 => ?_) (fun c1 => ?_)
  · refine go_iconst dX8_within_14 (v := 0) (by decide) ?_
    exact go_zret (μ := m_X8_within) dX8_within_15 rfl rfl (Nat.le_of_ble_eq_true rfl) (Nat.le_of_ble_eq_true rfl) (l1 c1)
  · refine go_iload_n dX8_within_5 rfl ?_
    refine go_iload_n dX8_within_6 rfl ?_
    refine go_icmp_gt (tgt := 14) dX8_within_7 (by decide) (fun c2 => ?_) (fun c2 => ?_)
    · refine go_iconst dX8_within_14 (v := 0) (by decide) ?_
      exact go_zret (μ := m_X8_within) dX8_within_15 rfl rfl (Nat.le_of_ble_eq_true rfl) (Nat.le_of_ble_eq_true rfl) (l2 c1 c2)
    · refine go_iconst dX8_within_10 (v := 1) (by decide) ?_
      refine go_goto (tgt := 15) dX8_within_11 (by decide) ?_
      exact go_zret (μ := m_X8_within) dX8_within_15 rfl rfl (Nat.le_of_ble_eq_true rfl) (Nat.le_of_ble_eq_true rfl) (l3 c1 c2)
theorem k_X8_isBoard_0 {x0 : Int32} {hi : Nat → Nat → Int32}
    (l1 : sk_Ct Γ m_X8_within [.int x0, .int 0, .int 3] (hi, sk_hr rr, sk_ks ++ ex) (fun r h' => sk_Go Γ (sk_M Γ m_X8_isBoard Q) (0, 0) 6 [some (.int x0)] (r.toList ++ []) h')) :
    sk_Go Γ (sk_M Γ m_X8_isBoard Q) (0, 0) 0 [some (.int x0)] [] (hi, sk_hr rr, sk_ks ++ ex) := by
  refine go_iload_n dX8_isBoard_0 rfl ?_
  refine go_iconst dX8_isBoard_1 (v := 0) (by decide) ?_
  refine go_iconst dX8_isBoard_2 (v := 3) (by decide) ?_
  refine go_callS (μ := m_X8_within) (n := 6) [.int x0, .int 0, .int 3] dX8_isBoard_3 ok_X8_within ml_X8_49 wx_X8_within rfl (Nat.le_of_ble_eq_true rfl) ⟨Nat.le_of_ble_eq_true rfl, Nat.le_of_ble_eq_true rfl⟩ ⟨Nat.le_of_ble_eq_true rfl, Nat.le_of_ble_eq_true rfl⟩ rfl ?_
  exact l1
theorem k_X8_isBoard_6 {x0 s0 : Int32} {hi : Nat → Nat → Int32}
    (o1 : narrow .boolean (.int s0) = .int s0)
    (l1 : Q (some (.int s0)) (hi, sk_hr rr, sk_ks ++ ex)) :
    sk_Go Γ (sk_M Γ m_X8_isBoard Q) (0, 0) 6 [some (.int x0)] [.int s0] (hi, sk_hr rr, sk_ks ++ ex) := by
  exact go_zret (μ := m_X8_isBoard) dX8_isBoard_6 rfl o1 (Nat.le_of_ble_eq_true rfl) (Nat.le_of_ble_eq_true rfl) l1
theorem k_X8_isTone_0 {x0 x1 : Int32} {hi : Nat → Nat → Int32}
    (l1 : sk_Ct Γ m_X8_isBoard [.int x0] (hi, sk_hr rr, sk_ks ++ ex) (fun r h' => sk_Go Γ (sk_M Γ m_X8_isTone Q) (0, 0) 4 [some (.int x0), some (.int x1)] (r.toList ++ []) h')) :
    sk_Go Γ (sk_M Γ m_X8_isTone Q) (0, 0) 0 [some (.int x0), some (.int x1)] [] (hi, sk_hr rr, sk_ks ++ ex) := by
  refine go_iload_n dX8_isTone_0 rfl ?_
  refine go_callS (μ := m_X8_isBoard) (n := 4) [.int x0] dX8_isTone_1 ok_X8_isBoard ml_X8_76 wx_X8_isBoard rfl (Nat.le_of_ble_eq_true rfl) ⟨Nat.le_of_ble_eq_true rfl, Nat.le_of_ble_eq_true rfl⟩ ⟨Nat.le_of_ble_eq_true rfl, Nat.le_of_ble_eq_true rfl⟩ rfl ?_
  exact l1
theorem k_X8_isTone_4 {x0 x1 s0 : Int32} {hi : Nat → Nat → Int32}
    (l1 : s0 = (0 : Int32) → Q (some (.int 0)) (hi, sk_hr rr, sk_ks ++ ex))
    (l2 : ¬ s0 = (0 : Int32) → sk_Ct Γ m_X8_within [.int x1, .int 0, .int 23] (hi, sk_hr rr, sk_ks ++ ex) (fun r h' => sk_Go Γ (sk_M Γ m_X8_isTone Q) (0, 0) 14 [some (.int x0), some (.int x1)] (r.toList ++ []) h')) :
    sk_Go Γ (sk_M Γ m_X8_isTone Q) (0, 0) 4 [some (.int x0), some (.int x1)] [.int s0] (hi, sk_hr rr, sk_ks ++ ex) := by
  refine go_if_eq (tgt := 21) dX8_isTone_4 (by decide) (fun c1 => ?_) (fun c1 => ?_)
  · refine go_iconst dX8_isTone_21 (v := 0) (by decide) ?_
    exact go_zret (μ := m_X8_isTone) dX8_isTone_22 rfl rfl (Nat.le_of_ble_eq_true rfl) (Nat.le_of_ble_eq_true rfl) (l1 c1)
  · refine go_iload_n dX8_isTone_7 rfl ?_
    refine go_iconst dX8_isTone_8 (v := 0) (by decide) ?_
    refine go_bipush dX8_isTone_9 (v := 23) (by decide) ?_
    refine go_callS (μ := m_X8_within) (n := 14) [.int x1, .int 0, .int 23] dX8_isTone_11 ok_X8_within ml_X8_49 wx_X8_within rfl (Nat.le_of_ble_eq_true rfl) ⟨Nat.le_of_ble_eq_true rfl, Nat.le_of_ble_eq_true rfl⟩ ⟨Nat.le_of_ble_eq_true rfl, Nat.le_of_ble_eq_true rfl⟩ rfl ?_
    exact (l2 c1)
theorem k_X8_isTone_14 {x0 x1 s0 : Int32} {hi : Nat → Nat → Int32}
    (l1 : s0 = (0 : Int32) → Q (some (.int 0)) (hi, sk_hr rr, sk_ks ++ ex))
    (l2 : ¬ s0 = (0 : Int32) → Q (some (.int 1)) (hi, sk_hr rr, sk_ks ++ ex)) :
    sk_Go Γ (sk_M Γ m_X8_isTone Q) (0, 0) 14 [some (.int x0), some (.int x1)] [.int s0] (hi, sk_hr rr, sk_ks ++ ex) := by
  refine go_if_eq (tgt := 21) dX8_isTone_14 (by decide) (fun c1 => ?_) (fun c1 => ?_)
  · refine go_iconst dX8_isTone_21 (v := 0) (by decide) ?_
    exact go_zret (μ := m_X8_isTone) dX8_isTone_22 rfl rfl (Nat.le_of_ble_eq_true rfl) (Nat.le_of_ble_eq_true rfl) (l1 c1)
  · refine go_iconst dX8_isTone_17 (v := 1) (by decide) ?_
    refine go_goto (tgt := 22) dX8_isTone_18 (by decide) ?_
    exact go_zret (μ := m_X8_isTone) dX8_isTone_22 rfl rfl (Nat.le_of_ble_eq_true rfl) (Nat.le_of_ble_eq_true rfl) (l2 c1)
theorem k_X8_forgetTrace_0 {hi : Nat → Nat → Int32}
    (l1 : Q none ((sk_wi hi 0 5 (-1)), sk_hr rr, sk_ks ++ ex)) :
    sk_Go Γ (sk_M Γ m_X8_forgetTrace Q) (0, 0) 0 [some (.ref 0)] [] (hi, sk_hr rr, sk_ks ++ ex) := by
  refine go_aload_n dX8_forgetTrace_0 rfl ?_
  refine go_iconst dX8_forgetTrace_1 (v := (-1)) (by decide) ?_
  refine go_putI dX8_forgetTrace_2 fl_X8_41 rfl rfl ?_
  exact go_vret (μ := m_X8_forgetTrace) dX8_forgetTrace_5 rfl (Nat.le_of_ble_eq_true rfl) (Nat.le_of_ble_eq_true rfl) l1
theorem k_X8_board_0 {x1 x2 x3 x4 : Int32} {hi : Nat → Nat → Int32}
    (l1 : sk_Ct Γ m_X8_isTone [.int x1, .int x2] (hi, sk_hr rr, sk_ks ++ ex) (fun r h' => sk_Go Γ (sk_M Γ m_X8_board Q) (0, 0) 5 [some (.ref 0), some (.int x1), some (.int x2), some (.int x3), some (.int x4)] (r.toList ++ []) h')) :
    sk_Go Γ (sk_M Γ m_X8_board Q) (0, 0) 0 [some (.ref 0), some (.int x1), some (.int x2), some (.int x3), some (.int x4)] [] (hi, sk_hr rr, sk_ks ++ ex) := by
  refine go_iload_n dX8_board_0 rfl ?_
  refine go_iload_n dX8_board_1 rfl ?_
  refine go_callS (μ := m_X8_isTone) (n := 5) [.int x1, .int x2] dX8_board_2 ok_X8_isTone ml_X8_45 wx_X8_isTone rfl (Nat.le_of_ble_eq_true rfl) ⟨Nat.le_of_ble_eq_true rfl, Nat.le_of_ble_eq_true rfl⟩ ⟨Nat.le_of_ble_eq_true rfl, Nat.le_of_ble_eq_true rfl⟩ rfl ?_
  exact l1
theorem k_X8_board_5 {x1 x2 x3 x4 s0 : Int32} {hi : Nat → Nat → Int32}
    (l1 : s0 = (0 : Int32) → Q (some (.int 0)) (hi, sk_hr rr, sk_ks ++ ex))
    (l2 : ¬ s0 = (0 : Int32) → sk_Ct Γ m_X8_within [.int x3, .int 0, .int 3] (hi, sk_hr rr, sk_ks ++ ex) (fun r h' => sk_Go Γ (sk_M Γ m_X8_board Q) (0, 0) 14 [some (.ref 0), some (.int x1), some (.int x2), some (.int x3), some (.int x4)] (r.toList ++ []) h')) :
    sk_Go Γ (sk_M Γ m_X8_board Q) (0, 0) 5 [some (.ref 0), some (.int x1), some (.int x2), some (.int x3), some (.int x4)] [.int s0] (hi, sk_hr rr, sk_ks ++ ex) := by
  refine go_if_eq (tgt := 25) dX8_board_5 (by decide) (fun c1 => ?_) (fun c1 => ?_)
  · refine go_iconst dX8_board_25 (v := 0) (by decide) ?_
    exact go_zret (μ := m_X8_board) dX8_board_26 rfl rfl (Nat.le_of_ble_eq_true rfl) (Nat.le_of_ble_eq_true rfl) (l1 c1)
  · refine go_iload_n dX8_board_8 rfl ?_
    refine go_iconst dX8_board_9 (v := 0) (by decide) ?_
    refine go_iconst dX8_board_10 (v := 3) (by decide) ?_
    refine go_callS (μ := m_X8_within) (n := 14) [.int x3, .int 0, .int 3] dX8_board_11 ok_X8_within ml_X8_49 wx_X8_within rfl (Nat.le_of_ble_eq_true rfl) ⟨Nat.le_of_ble_eq_true rfl, Nat.le_of_ble_eq_true rfl⟩ ⟨Nat.le_of_ble_eq_true rfl, Nat.le_of_ble_eq_true rfl⟩ rfl ?_
    exact (l2 c1)
theorem k_X8_board_14 {x1 x2 x3 x4 s0 : Int32} {hi : Nat → Nat → Int32}
    (l1 : s0 = (0 : Int32) → Q (some (.int 0)) (hi, sk_hr rr, sk_ks ++ ex))
    (l2 : ¬ s0 = (0 : Int32) → sk_Ct Γ m_X0_areEchoes [.int x4] (hi, sk_hr rr, sk_ks ++ ex) (fun r h' => sk_Go Γ (sk_M Γ m_X8_board Q) (0, 0) 22 [some (.ref 0), some (.int x1), some (.int x2), some (.int x3), some (.int x4)] (r.toList ++ []) h')) :
    sk_Go Γ (sk_M Γ m_X8_board Q) (0, 0) 14 [some (.ref 0), some (.int x1), some (.int x2), some (.int x3), some (.int x4)] [.int s0] (hi, sk_hr rr, sk_ks ++ ex) := by
  refine go_if_eq (tgt := 25) dX8_board_14 (by decide) (fun c1 => ?_) (fun c1 => ?_)
  · refine go_iconst dX8_board_25 (v := 0) (by decide) ?_
    exact go_zret (μ := m_X8_board) dX8_board_26 rfl rfl (Nat.le_of_ble_eq_true rfl) (Nat.le_of_ble_eq_true rfl) (l1 c1)
  · refine go_iload dX8_board_17 rfl ?_
    refine go_callS (μ := m_X0_areEchoes) (n := 22) [.int x4] dX8_board_19 ok_X0_areEchoes ml_X8_53 wx_X0_areEchoes rfl (Nat.le_of_ble_eq_true rfl) ⟨Nat.le_of_ble_eq_true rfl, Nat.le_of_ble_eq_true rfl⟩ ⟨Nat.le_of_ble_eq_true rfl, Nat.le_of_ble_eq_true rfl⟩ rfl ?_
    exact (l2 c1)
theorem k_X8_board_22 {x1 x2 x3 x4 s0 : Int32} {hi : Nat → Nat → Int32}
    (l1 : ¬ s0 = (0 : Int32) → sk_Ct Γ m_X0_putEight [.ref 2, .int x1, .int x2, .int x3, .int x4] (hi, sk_hr rr, sk_ks ++ ex) (fun r h' => sk_Go Γ (sk_M Γ m_X8_board Q) (0, 0) 42 [some (.ref 0), some (.int x1), some (.int x2), some (.int x3), some (.int x4)] (r.toList ++ []) h'))
    (l2 : s0 = (0 : Int32) → Q (some (.int 0)) (hi, sk_hr rr, sk_ks ++ ex)) :
    sk_Go Γ (sk_M Γ m_X8_board Q) (0, 0) 22 [some (.ref 0), some (.int x1), some (.int x2), some (.int x3), some (.int x4)] [.int s0] (hi, sk_hr rr, sk_ks ++ ex) := by
  refine go_if_ne (tgt := 27) dX8_board_22 (by decide) (fun c1 => ?_) (fun c1 => ?_)
  · refine go_aload_n dX8_board_27 rfl ?_
    refine go_getR dX8_board_28 fl_X8_10 rfl rfl (show _ = some 1 from rfl) ?_
    refine go_getR dX8_board_31 fl_X8_59 rfl rfl (show _ = some 2 from rfl) ?_
    refine go_iload_n dX8_board_34 rfl ?_
    refine go_iload_n dX8_board_35 rfl ?_
    refine go_iload_n dX8_board_36 rfl ?_
    refine go_iload dX8_board_37 rfl ?_
    refine go_callV (μ := m_X0_putEight) (n := 42) (T := TX0) (N := 5) [.int x1, .int x2, .int x3, .int x4] dX8_board_39 ok_X0_putEight ml_X8_63 wx_X0_putEight wl_X0_putEight (show _ = some (0, 0) from rfl) rfl rfl (Nat.le_of_ble_eq_true rfl) ⟨Nat.le_of_ble_eq_true rfl, Nat.le_of_ble_eq_true rfl⟩ ⟨Nat.le_of_ble_eq_true rfl, Nat.le_of_ble_eq_true rfl⟩ rfl ?_
    exact (l1 c1)
  · refine go_iconst dX8_board_25 (v := 0) (by decide) ?_
    exact go_zret (μ := m_X8_board) dX8_board_26 rfl rfl (Nat.le_of_ble_eq_true rfl) (Nat.le_of_ble_eq_true rfl) (l2 c1)
theorem k_X8_board_42 {x1 x2 x3 x4 : Int32} {hi : Nat → Nat → Int32}
    (l1 : sk_Ct Γ m_X8_forgetTrace [.ref 0] (hi, sk_hr rr, sk_ks ++ ex) (fun r h' => sk_Go Γ (sk_M Γ m_X8_board Q) (0, 0) 46 [some (.ref 0), some (.int x1), some (.int x2), some (.int x3), some (.int x4)] (r.toList ++ []) h')) :
    sk_Go Γ (sk_M Γ m_X8_board Q) (0, 0) 42 [some (.ref 0), some (.int x1), some (.int x2), some (.int x3), some (.int x4)] [] (hi, sk_hr rr, sk_ks ++ ex) := by
  refine go_aload_n dX8_board_42 rfl ?_
  refine go_callV (μ := m_X8_forgetTrace) (n := 46) (T := TX8) (N := 6) [] dX8_board_43 ok_X8_forgetTrace ml_X8_67 wx_X8_forgetTrace wl_X8_forgetTrace (show _ = some (0, 7) from rfl) rfl rfl (Nat.le_of_ble_eq_true rfl) ⟨Nat.le_of_ble_eq_true rfl, Nat.le_of_ble_eq_true rfl⟩ ⟨Nat.le_of_ble_eq_true rfl, Nat.le_of_ble_eq_true rfl⟩ rfl ?_
  exact l1
theorem k_X8_board_46 {x1 x2 x3 x4 : Int32} {hi : Nat → Nat → Int32}
    (l1 : Q (some (.int 1)) (hi, sk_hr rr, sk_ks ++ ex)) :
    sk_Go Γ (sk_M Γ m_X8_board Q) (0, 0) 46 [some (.ref 0), some (.int x1), some (.int x2), some (.int x3), some (.int x4)] [] (hi, sk_hr rr, sk_ks ++ ex) := by
  refine go_iconst dX8_board_46 (v := 1) (by decide) ?_
  exact go_zret (μ := m_X8_board) dX8_board_47 rfl rfl (Nat.le_of_ble_eq_true rfl) (Nat.le_of_ble_eq_true rfl) l1
theorem k_X8_isPlace_0 {x0 x1 x2 : Int32} {hi : Nat → Nat → Int32}
    (l1 : sk_Ct Γ m_X8_isTone [.int x0, .int x1] (hi, sk_hr rr, sk_ks ++ ex) (fun r h' => sk_Go Γ (sk_M Γ m_X8_isPlace Q) (0, 0) 5 [some (.int x0), some (.int x1), some (.int x2)] (r.toList ++ []) h')) :
    sk_Go Γ (sk_M Γ m_X8_isPlace Q) (0, 0) 0 [some (.int x0), some (.int x1), some (.int x2)] [] (hi, sk_hr rr, sk_ks ++ ex) := by
  refine go_iload_n dX8_isPlace_0 rfl ?_
  refine go_iload_n dX8_isPlace_1 rfl ?_
  refine go_callS (μ := m_X8_isTone) (n := 5) [.int x0, .int x1] dX8_isPlace_2 ok_X8_isTone ml_X8_45 wx_X8_isTone rfl (Nat.le_of_ble_eq_true rfl) ⟨Nat.le_of_ble_eq_true rfl, Nat.le_of_ble_eq_true rfl⟩ ⟨Nat.le_of_ble_eq_true rfl, Nat.le_of_ble_eq_true rfl⟩ rfl ?_
  exact l1
theorem k_X8_isPlace_5 {x0 x1 x2 s0 : Int32} {hi : Nat → Nat → Int32}
    (l1 : s0 = (0 : Int32) → Q (some (.int 0)) (hi, sk_hr rr, sk_ks ++ ex))
    (l2 : ¬ s0 = (0 : Int32) → sk_Ct Γ m_X8_within [.int x2, .int 0, .int 31] (hi, sk_hr rr, sk_ks ++ ex) (fun r h' => sk_Go Γ (sk_M Γ m_X8_isPlace Q) (0, 0) 15 [some (.int x0), some (.int x1), some (.int x2)] (r.toList ++ []) h')) :
    sk_Go Γ (sk_M Γ m_X8_isPlace Q) (0, 0) 5 [some (.int x0), some (.int x1), some (.int x2)] [.int s0] (hi, sk_hr rr, sk_ks ++ ex) := by
  refine go_if_eq (tgt := 22) dX8_isPlace_5 (by decide) (fun c1 => ?_) (fun c1 => ?_)
  · refine go_iconst dX8_isPlace_22 (v := 0) (by decide) ?_
    exact go_zret (μ := m_X8_isPlace) dX8_isPlace_23 rfl rfl (Nat.le_of_ble_eq_true rfl) (Nat.le_of_ble_eq_true rfl) (l1 c1)
  · refine go_iload_n dX8_isPlace_8 rfl ?_
    refine go_iconst dX8_isPlace_9 (v := 0) (by decide) ?_
    refine go_bipush dX8_isPlace_10 (v := 31) (by decide) ?_
    refine go_callS (μ := m_X8_within) (n := 15) [.int x2, .int 0, .int 31] dX8_isPlace_12 ok_X8_within ml_X8_49 wx_X8_within rfl (Nat.le_of_ble_eq_true rfl) ⟨Nat.le_of_ble_eq_true rfl, Nat.le_of_ble_eq_true rfl⟩ ⟨Nat.le_of_ble_eq_true rfl, Nat.le_of_ble_eq_true rfl⟩ rfl ?_
    exact (l2 c1)
theorem k_X8_isPlace_15 {x0 x1 x2 s0 : Int32} {hi : Nat → Nat → Int32}
    (l1 : s0 = (0 : Int32) → Q (some (.int 0)) (hi, sk_hr rr, sk_ks ++ ex))
    (l2 : ¬ s0 = (0 : Int32) → Q (some (.int 1)) (hi, sk_hr rr, sk_ks ++ ex)) :
    sk_Go Γ (sk_M Γ m_X8_isPlace Q) (0, 0) 15 [some (.int x0), some (.int x1), some (.int x2)] [.int s0] (hi, sk_hr rr, sk_ks ++ ex) := by
  refine go_if_eq (tgt := 22) dX8_isPlace_15 (by decide) (fun c1 => ?_) (fun c1 => ?_)
  · refine go_iconst dX8_isPlace_22 (v := 0) (by decide) ?_
    exact go_zret (μ := m_X8_isPlace) dX8_isPlace_23 rfl rfl (Nat.le_of_ble_eq_true rfl) (Nat.le_of_ble_eq_true rfl) (l1 c1)
  · refine go_iconst dX8_isPlace_18 (v := 1) (by decide) ?_
    refine go_goto (tgt := 23) dX8_isPlace_19 (by decide) ?_
    exact go_zret (μ := m_X8_isPlace) dX8_isPlace_23 rfl rfl (Nat.le_of_ble_eq_true rfl) (Nat.le_of_ble_eq_true rfl) (l2 c1)
theorem k_X8_echo_0 {x1 x2 x3 x4 : Int32} {hi : Nat → Nat → Int32}
    (l1 : sk_Ct Γ m_X8_isPlace [.int x1, .int x2, .int x3] (hi, sk_hr rr, sk_ks ++ ex) (fun r h' => sk_Go Γ (sk_M Γ m_X8_echo Q) (0, 0) 6 [some (.ref 0), some (.int x1), some (.int x2), some (.int x3), some (.int x4)] (r.toList ++ []) h')) :
    sk_Go Γ (sk_M Γ m_X8_echo Q) (0, 0) 0 [some (.ref 0), some (.int x1), some (.int x2), some (.int x3), some (.int x4)] [] (hi, sk_hr rr, sk_ks ++ ex) := by
  refine go_iload_n dX8_echo_0 rfl ?_
  refine go_iload_n dX8_echo_1 rfl ?_
  refine go_iload_n dX8_echo_2 rfl ?_
  refine go_callS (μ := m_X8_isPlace) (n := 6) [.int x1, .int x2, .int x3] dX8_echo_3 ok_X8_isPlace ml_X8_70 wx_X8_isPlace rfl (Nat.le_of_ble_eq_true rfl) ⟨Nat.le_of_ble_eq_true rfl, Nat.le_of_ble_eq_true rfl⟩ ⟨Nat.le_of_ble_eq_true rfl, Nat.le_of_ble_eq_true rfl⟩ rfl ?_
  exact l1
theorem k_X8_echo_6 {x1 x2 x3 x4 s0 : Int32} {hi : Nat → Nat → Int32}
    (l1 : s0 = (0 : Int32) → Q (some (.int 0)) (hi, sk_hr rr, sk_ks ++ ex))
    (l2 : ¬ s0 = (0 : Int32) → sk_Ct Γ m_X8_within [.int x4, .int 0, .int 9] (hi, sk_hr rr, sk_ks ++ ex) (fun r h' => sk_Go Γ (sk_M Γ m_X8_echo Q) (0, 0) 17 [some (.ref 0), some (.int x1), some (.int x2), some (.int x3), some (.int x4)] (r.toList ++ []) h')) :
    sk_Go Γ (sk_M Γ m_X8_echo Q) (0, 0) 6 [some (.ref 0), some (.int x1), some (.int x2), some (.int x3), some (.int x4)] [.int s0] (hi, sk_hr rr, sk_ks ++ ex) := by
  refine go_if_eq (tgt := 20) dX8_echo_6 (by decide) (fun c1 => ?_) (fun c1 => ?_)
  · refine go_iconst dX8_echo_20 (v := 0) (by decide) ?_
    exact go_zret (μ := m_X8_echo) dX8_echo_21 rfl rfl (Nat.le_of_ble_eq_true rfl) (Nat.le_of_ble_eq_true rfl) (l1 c1)
  · refine go_iload dX8_echo_9 rfl ?_
    refine go_iconst dX8_echo_11 (v := 0) (by decide) ?_
    refine go_bipush dX8_echo_12 (v := 9) (by decide) ?_
    refine go_callS (μ := m_X8_within) (n := 17) [.int x4, .int 0, .int 9] dX8_echo_14 ok_X8_within ml_X8_49 wx_X8_within rfl (Nat.le_of_ble_eq_true rfl) ⟨Nat.le_of_ble_eq_true rfl, Nat.le_of_ble_eq_true rfl⟩ ⟨Nat.le_of_ble_eq_true rfl, Nat.le_of_ble_eq_true rfl⟩ rfl ?_
    exact (l2 c1)
theorem k_X8_echo_17 {x1 x2 x3 x4 s0 : Int32} {hi : Nat → Nat → Int32}
    (l1 : ¬ s0 = (0 : Int32) → sk_Ct Γ m_X0_putEcho [.ref 2, .int x1, .int x2, .int x3, .int x4] (hi, sk_hr rr, sk_ks ++ ex) (fun r h' => sk_Go Γ (sk_M Γ m_X8_echo Q) (0, 0) 37 [some (.ref 0), some (.int x1), some (.int x2), some (.int x3), some (.int x4)] (r.toList ++ []) h'))
    (l2 : s0 = (0 : Int32) → Q (some (.int 0)) (hi, sk_hr rr, sk_ks ++ ex)) :
    sk_Go Γ (sk_M Γ m_X8_echo Q) (0, 0) 17 [some (.ref 0), some (.int x1), some (.int x2), some (.int x3), some (.int x4)] [.int s0] (hi, sk_hr rr, sk_ks ++ ex) := by
  refine go_if_ne (tgt := 22) dX8_echo_17 (by decide) (fun c1 => ?_) (fun c1 => ?_)
  · refine go_aload_n dX8_echo_22 rfl ?_
    refine go_getR dX8_echo_23 fl_X8_10 rfl rfl (show _ = some 1 from rfl) ?_
    refine go_getR dX8_echo_26 fl_X8_59 rfl rfl (show _ = some 2 from rfl) ?_
    refine go_iload_n dX8_echo_29 rfl ?_
    refine go_iload_n dX8_echo_30 rfl ?_
    refine go_iload_n dX8_echo_31 rfl ?_
    refine go_iload dX8_echo_32 rfl ?_
    refine go_callV (μ := m_X0_putEcho) (n := 37) (T := TX0) (N := 5) [.int x1, .int x2, .int x3, .int x4] dX8_echo_34 ok_X0_putEcho ml_X8_73 wx_X0_putEcho wl_X0_putEcho (show _ = some (0, 0) from rfl) rfl rfl (Nat.le_of_ble_eq_true rfl) ⟨Nat.le_of_ble_eq_true rfl, Nat.le_of_ble_eq_true rfl⟩ ⟨Nat.le_of_ble_eq_true rfl, Nat.le_of_ble_eq_true rfl⟩ rfl ?_
    exact (l1 c1)
  · refine go_iconst dX8_echo_20 (v := 0) (by decide) ?_
    exact go_zret (μ := m_X8_echo) dX8_echo_21 rfl rfl (Nat.le_of_ble_eq_true rfl) (Nat.le_of_ble_eq_true rfl) (l2 c1)
theorem k_X8_echo_37 {x1 x2 x3 x4 : Int32} {hi : Nat → Nat → Int32}
    (l1 : sk_Ct Γ m_X8_forgetTrace [.ref 0] (hi, sk_hr rr, sk_ks ++ ex) (fun r h' => sk_Go Γ (sk_M Γ m_X8_echo Q) (0, 0) 41 [some (.ref 0), some (.int x1), some (.int x2), some (.int x3), some (.int x4)] (r.toList ++ []) h')) :
    sk_Go Γ (sk_M Γ m_X8_echo Q) (0, 0) 37 [some (.ref 0), some (.int x1), some (.int x2), some (.int x3), some (.int x4)] [] (hi, sk_hr rr, sk_ks ++ ex) := by
  refine go_aload_n dX8_echo_37 rfl ?_
  refine go_callV (μ := m_X8_forgetTrace) (n := 41) (T := TX8) (N := 6) [] dX8_echo_38 ok_X8_forgetTrace ml_X8_67 wx_X8_forgetTrace wl_X8_forgetTrace (show _ = some (0, 7) from rfl) rfl rfl (Nat.le_of_ble_eq_true rfl) ⟨Nat.le_of_ble_eq_true rfl, Nat.le_of_ble_eq_true rfl⟩ ⟨Nat.le_of_ble_eq_true rfl, Nat.le_of_ble_eq_true rfl⟩ rfl ?_
  exact l1
theorem k_X8_echo_41 {x1 x2 x3 x4 : Int32} {hi : Nat → Nat → Int32}
    (l1 : Q (some (.int 1)) (hi, sk_hr rr, sk_ks ++ ex)) :
    sk_Go Γ (sk_M Γ m_X8_echo Q) (0, 0) 41 [some (.ref 0), some (.int x1), some (.int x2), some (.int x3), some (.int x4)] [] (hi, sk_hr rr, sk_ks ++ ex) := by
  refine go_iconst dX8_echo_41 (v := 1) (by decide) ?_
  exact go_zret (μ := m_X8_echo) dX8_echo_42 rfl rfl (Nat.le_of_ble_eq_true rfl) (Nat.le_of_ble_eq_true rfl) l1
theorem k_X8_blank_0 {x1 : Int32} {hi : Nat → Nat → Int32}
    (l1 : sk_Ct Γ m_X8_isBoard [.int x1] (hi, sk_hr rr, sk_ks ++ ex) (fun r h' => sk_Go Γ (sk_M Γ m_X8_blank Q) (0, 0) 4 [some (.ref 0), some (.int x1)] (r.toList ++ []) h')) :
    sk_Go Γ (sk_M Γ m_X8_blank Q) (0, 0) 0 [some (.ref 0), some (.int x1)] [] (hi, sk_hr rr, sk_ks ++ ex) := by
  refine go_iload_n dX8_blank_0 rfl ?_
  refine go_callS (μ := m_X8_isBoard) (n := 4) [.int x1] dX8_blank_1 ok_X8_isBoard ml_X8_76 wx_X8_isBoard rfl (Nat.le_of_ble_eq_true rfl) ⟨Nat.le_of_ble_eq_true rfl, Nat.le_of_ble_eq_true rfl⟩ ⟨Nat.le_of_ble_eq_true rfl, Nat.le_of_ble_eq_true rfl⟩ rfl ?_
  exact l1
theorem k_X8_blank_4 {x1 s0 : Int32} {hi : Nat → Nat → Int32}
    (l1 : ¬ s0 = (0 : Int32) → sk_Ct Γ m_X0_wipe [.ref 2, .int x1] (hi, sk_hr rr, sk_ks ++ ex) (fun r h' => sk_Go Γ (sk_M Γ m_X8_blank Q) (0, 0) 20 [some (.ref 0), some (.int x1)] (r.toList ++ []) h'))
    (l2 : s0 = (0 : Int32) → Q (some (.int 0)) (hi, sk_hr rr, sk_ks ++ ex)) :
    sk_Go Γ (sk_M Γ m_X8_blank Q) (0, 0) 4 [some (.ref 0), some (.int x1)] [.int s0] (hi, sk_hr rr, sk_ks ++ ex) := by
  refine go_if_ne (tgt := 9) dX8_blank_4 (by decide) (fun c1 => ?_) (fun c1 => ?_)
  · refine go_aload_n dX8_blank_9 rfl ?_
    refine go_getR dX8_blank_10 fl_X8_10 rfl rfl (show _ = some 1 from rfl) ?_
    refine go_getR dX8_blank_13 fl_X8_59 rfl rfl (show _ = some 2 from rfl) ?_
    refine go_iload_n dX8_blank_16 rfl ?_
    refine go_callV (μ := m_X0_wipe) (n := 20) (T := TX0) (N := 5) [.int x1] dX8_blank_17 ok_X0_wipe ml_X8_79 wx_X0_wipe wl_X0_wipe (show _ = some (0, 0) from rfl) rfl rfl (Nat.le_of_ble_eq_true rfl) ⟨Nat.le_of_ble_eq_true rfl, Nat.le_of_ble_eq_true rfl⟩ ⟨Nat.le_of_ble_eq_true rfl, Nat.le_of_ble_eq_true rfl⟩ rfl ?_
    exact (l1 c1)
  · refine go_iconst dX8_blank_7 (v := 0) (by decide) ?_
    exact go_zret (μ := m_X8_blank) dX8_blank_8 rfl rfl (Nat.le_of_ble_eq_true rfl) (Nat.le_of_ble_eq_true rfl) (l2 c1)
theorem k_X8_blank_20 {x1 : Int32} {hi : Nat → Nat → Int32}
    (l1 : sk_Ct Γ m_X8_forgetTrace [.ref 0] (hi, sk_hr rr, sk_ks ++ ex) (fun r h' => sk_Go Γ (sk_M Γ m_X8_blank Q) (0, 0) 24 [some (.ref 0), some (.int x1)] (r.toList ++ []) h')) :
    sk_Go Γ (sk_M Γ m_X8_blank Q) (0, 0) 20 [some (.ref 0), some (.int x1)] [] (hi, sk_hr rr, sk_ks ++ ex) := by
  refine go_aload_n dX8_blank_20 rfl ?_
  refine go_callV (μ := m_X8_forgetTrace) (n := 24) (T := TX8) (N := 6) [] dX8_blank_21 ok_X8_forgetTrace ml_X8_67 wx_X8_forgetTrace wl_X8_forgetTrace (show _ = some (0, 7) from rfl) rfl rfl (Nat.le_of_ble_eq_true rfl) ⟨Nat.le_of_ble_eq_true rfl, Nat.le_of_ble_eq_true rfl⟩ ⟨Nat.le_of_ble_eq_true rfl, Nat.le_of_ble_eq_true rfl⟩ rfl ?_
  exact l1
theorem k_X8_blank_24 {x1 : Int32} {hi : Nat → Nat → Int32}
    (l1 : Q (some (.int 1)) (hi, sk_hr rr, sk_ks ++ ex)) :
    sk_Go Γ (sk_M Γ m_X8_blank Q) (0, 0) 24 [some (.ref 0), some (.int x1)] [] (hi, sk_hr rr, sk_ks ++ ex) := by
  refine go_iconst dX8_blank_24 (v := 1) (by decide) ?_
  exact go_zret (μ := m_X8_blank) dX8_blank_25 rfl rfl (Nat.le_of_ble_eq_true rfl) (Nat.le_of_ble_eq_true rfl) l1
theorem k_X8_noise_0 {x1 x2 : Int32} {hi : Nat → Nat → Int32}
    (l1 : sk_Ct Γ m_X8_within [.int x1, .int 1, .int 9] (hi, sk_hr rr, sk_ks ++ ex) (fun r h' => sk_Go Γ (sk_M Γ m_X8_noise Q) (0, 0) 7 [some (.ref 0), some (.int x1), some (.int x2)] (r.toList ++ []) h')) :
    sk_Go Γ (sk_M Γ m_X8_noise Q) (0, 0) 0 [some (.ref 0), some (.int x1), some (.int x2)] [] (hi, sk_hr rr, sk_ks ++ ex) := by
  refine go_iload_n dX8_noise_0 rfl ?_
  refine go_iconst dX8_noise_1 (v := 1) (by decide) ?_
  refine go_bipush dX8_noise_2 (v := 9) (by decide) ?_
  refine go_callS (μ := m_X8_within) (n := 7) [.int x1, .int 1, .int 9] dX8_noise_4 ok_X8_within ml_X8_49 wx_X8_within rfl (Nat.le_of_ble_eq_true rfl) ⟨Nat.le_of_ble_eq_true rfl, Nat.le_of_ble_eq_true rfl⟩ ⟨Nat.le_of_ble_eq_true rfl, Nat.le_of_ble_eq_true rfl⟩ rfl ?_
  exact l1
theorem k_X8_noise_7 {x1 x2 s0 : Int32} {hi : Nat → Nat → Int32}
    (l1 : s0 = (0 : Int32) → Q (some (.int 0)) (hi, sk_hr rr, sk_ks ++ ex))
    (l2 : ¬ s0 = (0 : Int32) → sk_Ct Γ m_X8_within [.int x2, .int 1, .int 32] (hi, sk_hr rr, sk_ks ++ ex) (fun r h' => sk_Go Γ (sk_M Γ m_X8_noise Q) (0, 0) 17 [some (.ref 0), some (.int x1), some (.int x2)] (r.toList ++ []) h')) :
    sk_Go Γ (sk_M Γ m_X8_noise Q) (0, 0) 7 [some (.ref 0), some (.int x1), some (.int x2)] [.int s0] (hi, sk_hr rr, sk_ks ++ ex) := by
  refine go_if_eq (tgt := 20) dX8_noise_7 (by decide) (fun c1 => ?_) (fun c1 => ?_)
  · refine go_iconst dX8_noise_20 (v := 0) (by decide) ?_
    exact go_zret (μ := m_X8_noise) dX8_noise_21 rfl rfl (Nat.le_of_ble_eq_true rfl) (Nat.le_of_ble_eq_true rfl) (l1 c1)
  · refine go_iload_n dX8_noise_10 rfl ?_
    refine go_iconst dX8_noise_11 (v := 1) (by decide) ?_
    refine go_bipush dX8_noise_12 (v := 32) (by decide) ?_
    refine go_callS (μ := m_X8_within) (n := 17) [.int x2, .int 1, .int 32] dX8_noise_14 ok_X8_within ml_X8_49 wx_X8_within rfl (Nat.le_of_ble_eq_true rfl) ⟨Nat.le_of_ble_eq_true rfl, Nat.le_of_ble_eq_true rfl⟩ ⟨Nat.le_of_ble_eq_true rfl, Nat.le_of_ble_eq_true rfl⟩ rfl ?_
    exact (l2 c1)
theorem k_X8_noise_17 {x1 x2 s0 : Int32} {hi : Nat → Nat → Int32}
    (l1 : ¬ s0 = (0 : Int32) → sk_Ct Γ m_X0_setNoise [.ref 2, .int x1, .int x2] (hi, sk_hr rr, sk_ks ++ ex) (fun r h' => sk_Go Γ (sk_M Γ m_X8_noise Q) (0, 0) 34 [some (.ref 0), some (.int x1), some (.int x2)] (r.toList ++ []) h'))
    (l2 : s0 = (0 : Int32) → Q (some (.int 0)) (hi, sk_hr rr, sk_ks ++ ex)) :
    sk_Go Γ (sk_M Γ m_X8_noise Q) (0, 0) 17 [some (.ref 0), some (.int x1), some (.int x2)] [.int s0] (hi, sk_hr rr, sk_ks ++ ex) := by
  refine go_if_ne (tgt := 22) dX8_noise_17 (by decide) (fun c1 => ?_) (fun c1 => ?_)
  · refine go_aload_n dX8_noise_22 rfl ?_
    refine go_getR dX8_noise_23 fl_X8_10 rfl rfl (show _ = some 1 from rfl) ?_
    refine go_getR dX8_noise_26 fl_X8_59 rfl rfl (show _ = some 2 from rfl) ?_
    refine go_iload_n dX8_noise_29 rfl ?_
    refine go_iload_n dX8_noise_30 rfl ?_
    refine go_callV (μ := m_X0_setNoise) (n := 34) (T := TX0) (N := 5) [.int x1, .int x2] dX8_noise_31 ok_X0_setNoise ml_X8_83 wx_X0_setNoise wl_X0_setNoise (show _ = some (0, 0) from rfl) rfl rfl (Nat.le_of_ble_eq_true rfl) ⟨Nat.le_of_ble_eq_true rfl, Nat.le_of_ble_eq_true rfl⟩ ⟨Nat.le_of_ble_eq_true rfl, Nat.le_of_ble_eq_true rfl⟩ rfl ?_
    exact (l1 c1)
  · refine go_iconst dX8_noise_20 (v := 0) (by decide) ?_
    exact go_zret (μ := m_X8_noise) dX8_noise_21 rfl rfl (Nat.le_of_ble_eq_true rfl) (Nat.le_of_ble_eq_true rfl) (l2 c1)
theorem k_X8_noise_34 {x1 x2 : Int32} {hi : Nat → Nat → Int32}
    (l1 : sk_Ct Γ m_X8_forgetTrace [.ref 0] (hi, sk_hr rr, sk_ks ++ ex) (fun r h' => sk_Go Γ (sk_M Γ m_X8_noise Q) (0, 0) 38 [some (.ref 0), some (.int x1), some (.int x2)] (r.toList ++ []) h')) :
    sk_Go Γ (sk_M Γ m_X8_noise Q) (0, 0) 34 [some (.ref 0), some (.int x1), some (.int x2)] [] (hi, sk_hr rr, sk_ks ++ ex) := by
  refine go_aload_n dX8_noise_34 rfl ?_
  refine go_callV (μ := m_X8_forgetTrace) (n := 38) (T := TX8) (N := 6) [] dX8_noise_35 ok_X8_forgetTrace ml_X8_67 wx_X8_forgetTrace wl_X8_forgetTrace (show _ = some (0, 7) from rfl) rfl rfl (Nat.le_of_ble_eq_true rfl) ⟨Nat.le_of_ble_eq_true rfl, Nat.le_of_ble_eq_true rfl⟩ ⟨Nat.le_of_ble_eq_true rfl, Nat.le_of_ble_eq_true rfl⟩ rfl ?_
  exact l1
theorem k_X8_noise_38 {x1 x2 : Int32} {hi : Nat → Nat → Int32}
    (l1 : Q (some (.int 1)) (hi, sk_hr rr, sk_ks ++ ex)) :
    sk_Go Γ (sk_M Γ m_X8_noise Q) (0, 0) 38 [some (.ref 0), some (.int x1), some (.int x2)] [] (hi, sk_hr rr, sk_ks ++ ex) := by
  refine go_iconst dX8_noise_38 (v := 1) (by decide) ?_
  exact go_zret (μ := m_X8_noise) dX8_noise_39 rfl rfl (Nat.le_of_ble_eq_true rfl) (Nat.le_of_ble_eq_true rfl) l1
theorem k_X8_shift_0 {x1 : Int32} {hi : Nat → Nat → Int32}
    (l1 : sk_Ct Γ m_X8_within [.int x1, .int 1, .int 8] (hi, sk_hr rr, sk_ks ++ ex) (fun r h' => sk_Go Γ (sk_M Γ m_X8_shift Q) (0, 0) 7 [some (.ref 0), some (.int x1)] (r.toList ++ []) h')) :
    sk_Go Γ (sk_M Γ m_X8_shift Q) (0, 0) 0 [some (.ref 0), some (.int x1)] [] (hi, sk_hr rr, sk_ks ++ ex) := by
  refine go_iload_n dX8_shift_0 rfl ?_
  refine go_iconst dX8_shift_1 (v := 1) (by decide) ?_
  refine go_bipush dX8_shift_2 (v := 8) (by decide) ?_
  refine go_callS (μ := m_X8_within) (n := 7) [.int x1, .int 1, .int 8] dX8_shift_4 ok_X8_within ml_X8_49 wx_X8_within rfl (Nat.le_of_ble_eq_true rfl) ⟨Nat.le_of_ble_eq_true rfl, Nat.le_of_ble_eq_true rfl⟩ ⟨Nat.le_of_ble_eq_true rfl, Nat.le_of_ble_eq_true rfl⟩ rfl ?_
  exact l1
theorem k_X8_shift_7 {x1 s0 : Int32} {hi : Nat → Nat → Int32}
    (l1 : ¬ s0 = (0 : Int32) → sk_Ct Γ m_X8_forgetTrace [.ref 0] ((sk_wi hi 2 4 x1), sk_hr rr, sk_ks ++ ex) (fun r h' => sk_Go Γ (sk_M Γ m_X8_shift Q) (0, 0) 27 [some (.ref 0), some (.int x1)] (r.toList ++ []) h'))
    (l2 : s0 = (0 : Int32) → Q (some (.int 0)) (hi, sk_hr rr, sk_ks ++ ex)) :
    sk_Go Γ (sk_M Γ m_X8_shift Q) (0, 0) 7 [some (.ref 0), some (.int x1)] [.int s0] (hi, sk_hr rr, sk_ks ++ ex) := by
  refine go_if_ne (tgt := 12) dX8_shift_7 (by decide) (fun c1 => ?_) (fun c1 => ?_)
  · refine go_aload_n dX8_shift_12 rfl ?_
    refine go_getR dX8_shift_13 fl_X8_10 rfl rfl (show _ = some 1 from rfl) ?_
    refine go_getR dX8_shift_16 fl_X8_59 rfl rfl (show _ = some 2 from rfl) ?_
    refine go_iload_n dX8_shift_19 rfl ?_
    refine go_putI dX8_shift_20 fl_X8_87 rfl rfl ?_
    refine go_aload_n dX8_shift_23 rfl ?_
    refine go_callV (μ := m_X8_forgetTrace) (n := 27) (T := TX8) (N := 6) [] dX8_shift_24 ok_X8_forgetTrace ml_X8_67 wx_X8_forgetTrace wl_X8_forgetTrace (show _ = some (0, 7) from rfl) rfl rfl (Nat.le_of_ble_eq_true rfl) ⟨Nat.le_of_ble_eq_true rfl, Nat.le_of_ble_eq_true rfl⟩ ⟨Nat.le_of_ble_eq_true rfl, Nat.le_of_ble_eq_true rfl⟩ rfl ?_
    exact (l1 c1)
  · refine go_iconst dX8_shift_10 (v := 0) (by decide) ?_
    exact go_zret (μ := m_X8_shift) dX8_shift_11 rfl rfl (Nat.le_of_ble_eq_true rfl) (Nat.le_of_ble_eq_true rfl) (l2 c1)
theorem k_X8_shift_27 {x1 : Int32} {hi : Nat → Nat → Int32}
    (l1 : Q (some (.int 1)) (hi, sk_hr rr, sk_ks ++ ex)) :
    sk_Go Γ (sk_M Γ m_X8_shift Q) (0, 0) 27 [some (.ref 0), some (.int x1)] [] (hi, sk_hr rr, sk_ks ++ ex) := by
  refine go_iconst dX8_shift_27 (v := 1) (by decide) ?_
  exact go_zret (μ := m_X8_shift) dX8_shift_28 rfl rfl (Nat.le_of_ble_eq_true rfl) (Nat.le_of_ble_eq_true rfl) l1
theorem k_X8_tell_0 {x1 x2 x3 x4 : Int32} {hi : Nat → Nat → Int32}
    (l1 : sk_Ct Γ m_X8_isPlace [.int x1, .int x2, .int x3] (hi, sk_hr rr, sk_ks ++ ex) (fun r h' => sk_Go Γ (sk_M Γ m_X8_tell Q) (0, 0) 6 [some (.ref 0), some (.int x1), some (.int x2), some (.int x3), some (.int x4)] (r.toList ++ []) h')) :
    sk_Go Γ (sk_M Γ m_X8_tell Q) (0, 0) 0 [some (.ref 0), some (.int x1), some (.int x2), some (.int x3), some (.int x4)] [] (hi, sk_hr rr, sk_ks ++ ex) := by
  refine go_iload_n dX8_tell_0 rfl ?_
  refine go_iload_n dX8_tell_1 rfl ?_
  refine go_iload_n dX8_tell_2 rfl ?_
  refine go_callS (μ := m_X8_isPlace) (n := 6) [.int x1, .int x2, .int x3] dX8_tell_3 ok_X8_isPlace ml_X8_70 wx_X8_isPlace rfl (Nat.le_of_ble_eq_true rfl) ⟨Nat.le_of_ble_eq_true rfl, Nat.le_of_ble_eq_true rfl⟩ ⟨Nat.le_of_ble_eq_true rfl, Nat.le_of_ble_eq_true rfl⟩ rfl ?_
  exact l1
theorem k_X8_tell_6 {x1 x2 x3 x4 s0 : Int32} {hi : Nat → Nat → Int32}
    (l1 : ¬ s0 = (0 : Int32) → (Int32.toInt x4 < 0 ∨ 2 < Int32.toInt x4) → Q (some (.int (-1))) (hi, sk_hr rr, sk_ks ++ ex))
    (l2 : ¬ s0 = (0 : Int32) → x4 = 0 → sk_Ct Γ m_X0_echoAt [.ref 2, .int x1, .int x2, .int x3] (hi, sk_hr rr, sk_ks ++ ex) (fun r h' => sk_Go Γ (sk_M Γ m_X8_tell Q) (0, 0) 53 [some (.ref 0), some (.int x1), some (.int x2), some (.int x3), some (.int x4)] (r.toList ++ []) h'))
    (l3 : ¬ s0 = (0 : Int32) → x4 = 1 → sk_Ct Γ m_X0_worthAt [.ref 2, .int x1, .int x2, .int x3] (hi, sk_hr rr, sk_ks ++ ex) (fun r h' => sk_Go Γ (sk_M Γ m_X8_tell Q) (0, 0) 67 [some (.ref 0), some (.int x1), some (.int x2), some (.int x3), some (.int x4)] (r.toList ++ []) h'))
    (l4 : ¬ s0 = (0 : Int32) → x4 = 2 → sk_Ct Γ m_X0_isBarred [.ref 2, .int x1, .int x2] (hi, sk_hr rr, sk_ks ++ ex) (fun r h' => sk_Go Γ (sk_M Γ m_X8_tell Q) (0, 0) 80 [some (.ref 0), some (.int x1), some (.int x2), some (.int x3), some (.int x4)] (r.toList ++ []) h'))
    (l5 : s0 = (0 : Int32) → Q (some (.int (-1))) (hi, sk_hr rr, sk_ks ++ ex)) :
    sk_Go Γ (sk_M Γ m_X8_tell Q) (0, 0) 6 [some (.ref 0), some (.int x1), some (.int x2), some (.int x3), some (.int x4)] [.int s0] (hi, sk_hr rr, sk_ks ++ ex) := by
  refine go_if_ne (tgt := 11) dX8_tell_6 (by decide) (fun c1 => ?_) (fun c1 => ?_)
  · refine go_iload dX8_tell_11 rfl ?_
    by_cases c2 : (Int32.toInt x4 < 0 ∨ 2 < Int32.toInt x4)
    · refine go_tout (tgt := 89) dX8_tell_13 c2 (by decide) ?_
      refine go_iconst dX8_tell_89 (v := (-1)) (by decide) ?_
      exact go_iret (μ := m_X8_tell) dX8_tell_90 rfl (Nat.le_of_ble_eq_true rfl) (Nat.le_of_ble_eq_true rfl) (l1 c1 c2)
    · have hlo : ¬ Int32.toInt x4 < 0 := fun q => c2 (Or.inl q)
      have hhi : ¬ 2 < Int32.toInt x4 := fun q => c2 (Or.inr q)
      by_cases hc0 : Int32.toInt x4 = 0
      · have c2 : x4 = 0 := Int32.toInt_inj.mp hc0
        refine go_tin (tgt := 40) (off := 27) dX8_tell_13 hlo hhi (by rw [hc0]; rfl) (by decide) ?_
        refine go_aload_n dX8_tell_40 rfl ?_
        refine go_getR dX8_tell_41 fl_X8_10 rfl rfl (show _ = some 1 from rfl) ?_
        refine go_getR dX8_tell_44 fl_X8_59 rfl rfl (show _ = some 2 from rfl) ?_
        refine go_iload_n dX8_tell_47 rfl ?_
        refine go_iload_n dX8_tell_48 rfl ?_
        refine go_iload_n dX8_tell_49 rfl ?_
        refine go_callV (μ := m_X0_echoAt) (n := 53) (T := TX0) (N := 5) [.int x1, .int x2, .int x3] dX8_tell_50 ok_X0_echoAt ml_X8_90 wx_X0_echoAt wl_X0_echoAt (show _ = some (0, 0) from rfl) rfl rfl (Nat.le_of_ble_eq_true rfl) ⟨Nat.le_of_ble_eq_true rfl, Nat.le_of_ble_eq_true rfl⟩ ⟨Nat.le_of_ble_eq_true rfl, Nat.le_of_ble_eq_true rfl⟩ rfl ?_
        exact (l2 c1 c2)
      · skip
        by_cases hc1 : Int32.toInt x4 = 1
        · have c2 : x4 = 1 := Int32.toInt_inj.mp hc1
          refine go_tin (tgt := 54) (off := 41) dX8_tell_13 hlo hhi (by rw [hc1]; rfl) (by decide) ?_
          refine go_aload_n dX8_tell_54 rfl ?_
          refine go_getR dX8_tell_55 fl_X8_10 rfl rfl (show _ = some 1 from rfl) ?_
          refine go_getR dX8_tell_58 fl_X8_59 rfl rfl (show _ = some 2 from rfl) ?_
          refine go_iload_n dX8_tell_61 rfl ?_
          refine go_iload_n dX8_tell_62 rfl ?_
          refine go_iload_n dX8_tell_63 rfl ?_
          refine go_callV (μ := m_X0_worthAt) (n := 67) (T := TX0) (N := 5) [.int x1, .int x2, .int x3] dX8_tell_64 ok_X0_worthAt ml_X8_94 wx_X0_worthAt wl_X0_worthAt (show _ = some (0, 0) from rfl) rfl rfl (Nat.le_of_ble_eq_true rfl) ⟨Nat.le_of_ble_eq_true rfl, Nat.le_of_ble_eq_true rfl⟩ ⟨Nat.le_of_ble_eq_true rfl, Nat.le_of_ble_eq_true rfl⟩ rfl ?_
          exact (l3 c1 c2)
        · skip
          have hc2 : Int32.toInt x4 = 2 := by omega
          have c2 : x4 = 2 := Int32.toInt_inj.mp hc2
          refine go_tin (tgt := 68) (off := 55) dX8_tell_13 hlo hhi (by rw [hc2]; rfl) (by decide) ?_
          refine go_aload_n dX8_tell_68 rfl ?_
          refine go_getR dX8_tell_69 fl_X8_10 rfl rfl (show _ = some 1 from rfl) ?_
          refine go_getR dX8_tell_72 fl_X8_59 rfl rfl (show _ = some 2 from rfl) ?_
          refine go_iload_n dX8_tell_75 rfl ?_
          refine go_iload_n dX8_tell_76 rfl ?_
          refine go_callV (μ := m_X0_isBarred) (n := 80) (T := TX0) (N := 5) [.int x1, .int x2] dX8_tell_77 ok_X0_isBarred ml_X8_97 wx_X0_isBarred wl_X0_isBarred (show _ = some (0, 0) from rfl) rfl rfl (Nat.le_of_ble_eq_true rfl) ⟨Nat.le_of_ble_eq_true rfl, Nat.le_of_ble_eq_true rfl⟩ ⟨Nat.le_of_ble_eq_true rfl, Nat.le_of_ble_eq_true rfl⟩ rfl ?_
          exact (l4 c1 c2)
  · refine go_iconst dX8_tell_9 (v := (-1)) (by decide) ?_
    exact go_iret (μ := m_X8_tell) dX8_tell_10 rfl (Nat.le_of_ble_eq_true rfl) (Nat.le_of_ble_eq_true rfl) (l5 c1)
theorem k_X8_tell_53 {x1 x2 x3 x4 s0 : Int32} {hi : Nat → Nat → Int32}
    (l1 : Q (some (.int s0)) (hi, sk_hr rr, sk_ks ++ ex)) :
    sk_Go Γ (sk_M Γ m_X8_tell Q) (0, 0) 53 [some (.ref 0), some (.int x1), some (.int x2), some (.int x3), some (.int x4)] [.int s0] (hi, sk_hr rr, sk_ks ++ ex) := by
  exact go_iret (μ := m_X8_tell) dX8_tell_53 rfl (Nat.le_of_ble_eq_true rfl) (Nat.le_of_ble_eq_true rfl) l1
theorem k_X8_tell_67 {x1 x2 x3 x4 s0 : Int32} {hi : Nat → Nat → Int32}
    (l1 : Q (some (.int s0)) (hi, sk_hr rr, sk_ks ++ ex)) :
    sk_Go Γ (sk_M Γ m_X8_tell Q) (0, 0) 67 [some (.ref 0), some (.int x1), some (.int x2), some (.int x3), some (.int x4)] [.int s0] (hi, sk_hr rr, sk_ks ++ ex) := by
  exact go_iret (μ := m_X8_tell) dX8_tell_67 rfl (Nat.le_of_ble_eq_true rfl) (Nat.le_of_ble_eq_true rfl) l1
theorem k_X8_tell_80 {x1 x2 x3 x4 s0 : Int32} {hi : Nat → Nat → Int32}
    (l1 : s0 = (0 : Int32) → Q (some (.int 0)) (hi, sk_hr rr, sk_ks ++ ex))
    (l2 : ¬ s0 = (0 : Int32) → Q (some (.int 1)) (hi, sk_hr rr, sk_ks ++ ex)) :
    sk_Go Γ (sk_M Γ m_X8_tell Q) (0, 0) 80 [some (.ref 0), some (.int x1), some (.int x2), some (.int x3), some (.int x4)] [.int s0] (hi, sk_hr rr, sk_ks ++ ex) := by
  refine go_if_eq (tgt := 87) dX8_tell_80 (by decide) (fun c1 => ?_) (fun c1 => ?_)
  · refine go_iconst dX8_tell_87 (v := 0) (by decide) ?_
    exact go_iret (μ := m_X8_tell) dX8_tell_88 rfl (Nat.le_of_ble_eq_true rfl) (Nat.le_of_ble_eq_true rfl) (l1 c1)
  · refine go_iconst dX8_tell_83 (v := 1) (by decide) ?_
    refine go_goto (tgt := 88) dX8_tell_84 (by decide) ?_
    exact go_iret (μ := m_X8_tell) dX8_tell_88 rfl (Nat.le_of_ble_eq_true rfl) (Nat.le_of_ble_eq_true rfl) (l2 c1)
theorem k_X8_hasTrace_0 {x1 : Int32} {hi : Nat → Nat → Int32}
    (l1 : sk_Ct Γ m_X8_isBoard [.int x1] (hi, sk_hr rr, sk_ks ++ ex) (fun r h' => sk_Go Γ (sk_M Γ m_X8_hasTrace Q) (0, 0) 4 [some (.ref 0), some (.int x1)] (r.toList ++ []) h')) :
    sk_Go Γ (sk_M Γ m_X8_hasTrace Q) (0, 0) 0 [some (.ref 0), some (.int x1)] [] (hi, sk_hr rr, sk_ks ++ ex) := by
  refine go_iload_n dX8_hasTrace_0 rfl ?_
  refine go_callS (μ := m_X8_isBoard) (n := 4) [.int x1] dX8_hasTrace_1 ok_X8_isBoard ml_X8_76 wx_X8_isBoard rfl (Nat.le_of_ble_eq_true rfl) ⟨Nat.le_of_ble_eq_true rfl, Nat.le_of_ble_eq_true rfl⟩ ⟨Nat.le_of_ble_eq_true rfl, Nat.le_of_ble_eq_true rfl⟩ rfl ?_
  exact l1
theorem k_X8_hasTrace_4 {x1 s0 : Int32} {hi : Nat → Nat → Int32}
    (l1 : ¬ s0 = (0 : Int32) → (hi 0 5) = x1 → sk_Ct Γ m_X6_isFound [.ref 12] (hi, sk_hr rr, sk_ks ++ ex) (fun r h' => sk_Go Γ (sk_M Γ m_X8_hasTrace Q) (0, 0) 55 [some (.ref 0), some (.int x1)] (r.toList ++ []) h'))
    (l2 : ¬ s0 = (0 : Int32) → ¬ (hi 0 5) = x1 → sk_Ct Γ m_X6_find [.ref 12, .ref 2, .int x1] (hi, sk_hr rr, sk_ks ++ ex) (fun r h' => sk_Go Γ (sk_M Γ m_X8_hasTrace Q) (0, 0) 32 [some (.ref 0), some (.int x1)] (r.toList ++ []) h'))
    (l3 : s0 = (0 : Int32) → Q (some (.int 0)) (hi, sk_hr rr, sk_ks ++ ex)) :
    sk_Go Γ (sk_M Γ m_X8_hasTrace Q) (0, 0) 4 [some (.ref 0), some (.int x1)] [.int s0] (hi, sk_hr rr, sk_ks ++ ex) := by
  refine go_if_ne (tgt := 9) dX8_hasTrace_4 (by decide) (fun c1 => ?_) (fun c1 => ?_)
  · refine go_aload_n dX8_hasTrace_9 rfl ?_
    refine go_getI dX8_hasTrace_10 fl_X8_41 rfl rfl ?_
    refine go_iload_n dX8_hasTrace_13 rfl ?_
    refine go_icmp_eq (tgt := 48) dX8_hasTrace_14 (by decide) (fun c2 => ?_) (fun c2 => ?_)
    · refine go_aload_n dX8_hasTrace_48 rfl ?_
      refine go_getR dX8_hasTrace_49 fl_X8_23 rfl rfl (show _ = some 12 from rfl) ?_
      refine go_callV (μ := m_X6_isFound) (n := 55) (T := TX6) (N := 6) [] dX8_hasTrace_52 ok_X6_isFound ml_X8_222 wx_X6_isFound wl_X6_isFound (show _ = some (0, 5) from rfl) rfl rfl (Nat.le_of_ble_eq_true rfl) ⟨Nat.le_of_ble_eq_true rfl, Nat.le_of_ble_eq_true rfl⟩ ⟨Nat.le_of_ble_eq_true rfl, Nat.le_of_ble_eq_true rfl⟩ rfl ?_
      exact (l1 c1 c2)
    · refine go_aload_n dX8_hasTrace_17 rfl ?_
      refine go_getR dX8_hasTrace_18 fl_X8_23 rfl rfl (show _ = some 12 from rfl) ?_
      refine go_aload_n dX8_hasTrace_21 rfl ?_
      refine go_getR dX8_hasTrace_22 fl_X8_10 rfl rfl (show _ = some 1 from rfl) ?_
      refine go_getR dX8_hasTrace_25 fl_X8_59 rfl rfl (show _ = some 2 from rfl) ?_
      refine go_iload_n dX8_hasTrace_28 rfl ?_
      refine go_callV (μ := m_X6_find) (n := 32) (T := TX6) (N := 6) [.ref 2, .int x1] dX8_hasTrace_29 ok_X6_find ml_X8_215 wx_X6_find wl_X6_find (show _ = some (0, 5) from rfl) rfl rfl (Nat.le_of_ble_eq_true rfl) ⟨Nat.le_of_ble_eq_true rfl, Nat.le_of_ble_eq_true rfl⟩ ⟨Nat.le_of_ble_eq_true rfl, Nat.le_of_ble_eq_true rfl⟩ rfl ?_
      exact (l2 c1 c2)
  · refine go_iconst dX8_hasTrace_7 (v := 0) (by decide) ?_
    exact go_zret (μ := m_X8_hasTrace) dX8_hasTrace_8 rfl rfl (Nat.le_of_ble_eq_true rfl) (Nat.le_of_ble_eq_true rfl) (l3 c1)
theorem k_X8_hasTrace_32 {x1 : Int32} {hi : Nat → Nat → Int32}
    (l1 : sk_Ct Γ m_X7_undo [.ref 16, .ref 12] (hi, sk_hr rr, sk_ks ++ ex) (fun r h' => sk_Go Γ (sk_M Γ m_X8_hasTrace Q) (0, 0) 43 [some (.ref 0), some (.int x1)] (r.toList ++ []) h')) :
    sk_Go Γ (sk_M Γ m_X8_hasTrace Q) (0, 0) 32 [some (.ref 0), some (.int x1)] [] (hi, sk_hr rr, sk_ks ++ ex) := by
  refine go_aload_n dX8_hasTrace_32 rfl ?_
  refine go_getR dX8_hasTrace_33 fl_X8_30 rfl rfl (show _ = some 16 from rfl) ?_
  refine go_aload_n dX8_hasTrace_36 rfl ?_
  refine go_getR dX8_hasTrace_37 fl_X8_23 rfl rfl (show _ = some 12 from rfl) ?_
  refine go_callV (μ := m_X7_undo) (n := 43) (T := TX7) (N := 2) [.ref 12] dX8_hasTrace_40 ok_X7_undo ml_X8_218 wx_X7_undo wl_X7_undo (show _ = some (0, 6) from rfl) rfl rfl (Nat.le_of_ble_eq_true rfl) ⟨Nat.le_of_ble_eq_true rfl, Nat.le_of_ble_eq_true rfl⟩ ⟨Nat.le_of_ble_eq_true rfl, Nat.le_of_ble_eq_true rfl⟩ rfl ?_
  exact l1
theorem k_X8_hasTrace_43 {x1 : Int32} {hi : Nat → Nat → Int32}
    (l1 : sk_Ct Γ m_X6_isFound [.ref 12] ((sk_wi hi 0 5 x1), sk_hr rr, sk_ks ++ ex) (fun r h' => sk_Go Γ (sk_M Γ m_X8_hasTrace Q) (0, 0) 55 [some (.ref 0), some (.int x1)] (r.toList ++ []) h')) :
    sk_Go Γ (sk_M Γ m_X8_hasTrace Q) (0, 0) 43 [some (.ref 0), some (.int x1)] [] (hi, sk_hr rr, sk_ks ++ ex) := by
  refine go_aload_n dX8_hasTrace_43 rfl ?_
  refine go_iload_n dX8_hasTrace_44 rfl ?_
  refine go_putI dX8_hasTrace_45 fl_X8_41 rfl rfl ?_
  refine go_aload_n dX8_hasTrace_48 rfl ?_
  refine go_getR dX8_hasTrace_49 fl_X8_23 rfl rfl (show _ = some 12 from rfl) ?_
  refine go_callV (μ := m_X6_isFound) (n := 55) (T := TX6) (N := 6) [] dX8_hasTrace_52 ok_X6_isFound ml_X8_222 wx_X6_isFound wl_X6_isFound (show _ = some (0, 5) from rfl) rfl rfl (Nat.le_of_ble_eq_true rfl) ⟨Nat.le_of_ble_eq_true rfl, Nat.le_of_ble_eq_true rfl⟩ ⟨Nat.le_of_ble_eq_true rfl, Nat.le_of_ble_eq_true rfl⟩ rfl ?_
  exact l1
theorem k_X8_hasTrace_55 {x1 s0 : Int32} {hi : Nat → Nat → Int32}
    (o1 : narrow .boolean (.int s0) = .int s0)
    (l1 : Q (some (.int s0)) (hi, sk_hr rr, sk_ks ++ ex)) :
    sk_Go Γ (sk_M Γ m_X8_hasTrace Q) (0, 0) 55 [some (.ref 0), some (.int x1)] [.int s0] (hi, sk_hr rr, sk_ks ++ ex) := by
  exact go_zret (μ := m_X8_hasTrace) dX8_hasTrace_55 rfl o1 (Nat.le_of_ble_eq_true rfl) (Nat.le_of_ble_eq_true rfl) l1
theorem k_X8_lastLetter_0 {x1 : Int32} {hi : Nat → Nat → Int32}
    (l1 : (24 : Int32) ≤ ((hi 12 5) + 1) → Q (some (.int 1)) (hi, sk_hr rr, sk_ks ++ ex))
    (l2 : ¬ (24 : Int32) ≤ ((hi 12 5) + 1) → sk_Ct Γ m_X0_isBarred [.ref 2, .int x1, .int ((hi 12 5) + 1)] (hi, sk_hr rr, sk_ks ++ ex) (fun r h' => sk_Go Γ (sk_M Γ m_X8_lastLetter Q) (0, 0) 28 [some (.ref 0), some (.int x1), some (.int ((hi 12 5) + 1))] (r.toList ++ []) h')) :
    sk_Go Γ (sk_M Γ m_X8_lastLetter Q) (0, 0) 0 [some (.ref 0), some (.int x1), none] [] (hi, sk_hr rr, sk_ks ++ ex) := by
  refine go_aload_n dX8_lastLetter_0 rfl ?_
  refine go_getR dX8_lastLetter_1 fl_X8_23 rfl rfl (show _ = some 12 from rfl) ?_
  refine go_getI dX8_lastLetter_4 fl_X8_109 rfl rfl ?_
  refine go_iconst dX8_lastLetter_7 (v := 1) (by decide) ?_
  refine go_iadd dX8_lastLetter_8 ?_
  refine go_istore_n dX8_lastLetter_9 (Nat.le_of_ble_eq_true rfl) ?_
  show sk_Go Γ (sk_M Γ m_X8_lastLetter Q) (0, 0) _ [some (.ref 0), some (.int x1), some (.int ((hi 12 5) + 1))] [] _
  refine go_iload_n dX8_lastLetter_10 rfl ?_
  refine go_bipush dX8_lastLetter_11 (v := 24) (by decide) ?_
  refine go_icmp_ge (tgt := 31) dX8_lastLetter_13 (by decide) (fun c1 => ?_) (fun c1 => ?_)
  · refine go_iconst dX8_lastLetter_31 (v := 1) (by decide) ?_
    refine go_goto (tgt := 36) dX8_lastLetter_32 (by decide) ?_
    exact go_iret (μ := m_X8_lastLetter) dX8_lastLetter_36 rfl (Nat.le_of_ble_eq_true rfl) (Nat.le_of_ble_eq_true rfl) (l1 c1)
  · refine go_aload_n dX8_lastLetter_16 rfl ?_
    refine go_getR dX8_lastLetter_17 fl_X8_10 rfl rfl (show _ = some 1 from rfl) ?_
    refine go_getR dX8_lastLetter_20 fl_X8_59 rfl rfl (show _ = some 2 from rfl) ?_
    refine go_iload_n dX8_lastLetter_23 rfl ?_
    refine go_iload_n dX8_lastLetter_24 rfl ?_
    refine go_callV (μ := m_X0_isBarred) (n := 28) (T := TX0) (N := 5) [.int x1, .int ((hi 12 5) + 1)] dX8_lastLetter_25 ok_X0_isBarred ml_X8_97 wx_X0_isBarred wl_X0_isBarred (show _ = some (0, 0) from rfl) rfl rfl (Nat.le_of_ble_eq_true rfl) ⟨Nat.le_of_ble_eq_true rfl, Nat.le_of_ble_eq_true rfl⟩ ⟨Nat.le_of_ble_eq_true rfl, Nat.le_of_ble_eq_true rfl⟩ rfl ?_
    exact (l2 c1)
theorem k_X8_lastLetter_28 {x1 x2 s0 : Int32} {hi : Nat → Nat → Int32}
    (l1 : s0 = (0 : Int32) → Q (some (.int 0)) (hi, sk_hr rr, sk_ks ++ ex))
    (l2 : ¬ s0 = (0 : Int32) → Q (some (.int 1)) (hi, sk_hr rr, sk_ks ++ ex)) :
    sk_Go Γ (sk_M Γ m_X8_lastLetter Q) (0, 0) 28 [some (.ref 0), some (.int x1), some (.int x2)] [.int s0] (hi, sk_hr rr, sk_ks ++ ex) := by
  refine go_if_eq (tgt := 35) dX8_lastLetter_28 (by decide) (fun c1 => ?_) (fun c1 => ?_)
  · refine go_iconst dX8_lastLetter_35 (v := 0) (by decide) ?_
    exact go_iret (μ := m_X8_lastLetter) dX8_lastLetter_36 rfl (Nat.le_of_ble_eq_true rfl) (Nat.le_of_ble_eq_true rfl) (l1 c1)
  · refine go_iconst dX8_lastLetter_31 (v := 1) (by decide) ?_
    refine go_goto (tgt := 36) dX8_lastLetter_32 (by decide) ?_
    exact go_iret (μ := m_X8_lastLetter) dX8_lastLetter_36 rfl (Nat.le_of_ble_eq_true rfl) (Nat.le_of_ble_eq_true rfl) (l2 c1)
theorem k_X8_trace_0 {x1 x2 : Int32} {hi : Nat → Nat → Int32}
    (l1 : sk_Ct Γ m_X8_hasTrace [.ref 0, .int x1] (hi, sk_hr rr, sk_ks ++ ex) (fun r h' => sk_Go Γ (sk_M Γ m_X8_trace Q) (0, 0) 5 [some (.ref 0), some (.int x1), some (.int x2)] (r.toList ++ []) h')) :
    sk_Go Γ (sk_M Γ m_X8_trace Q) (0, 0) 0 [some (.ref 0), some (.int x1), some (.int x2)] [] (hi, sk_hr rr, sk_ks ++ ex) := by
  refine go_aload_n dX8_trace_0 rfl ?_
  refine go_iload_n dX8_trace_1 rfl ?_
  refine go_callV (μ := m_X8_hasTrace) (n := 5) (T := TX8) (N := 6) [.int x1] dX8_trace_2 ok_X8_hasTrace ml_X8_100 wx_X8_hasTrace wl_X8_hasTrace (show _ = some (0, 7) from rfl) rfl rfl (Nat.le_of_ble_eq_true rfl) ⟨Nat.le_of_ble_eq_true rfl, Nat.le_of_ble_eq_true rfl⟩ ⟨Nat.le_of_ble_eq_true rfl, Nat.le_of_ble_eq_true rfl⟩ rfl ?_
  exact l1
theorem k_X8_trace_5 {x1 x2 s0 : Int32} {hi : Nat → Nat → Int32}
    (l1 : ¬ s0 = (0 : Int32) → (Int32.toInt x2 < 0 ∨ 3 < Int32.toInt x2) → Q (some (.int (-1))) (hi, sk_hr rr, sk_ks ++ ex))
    (l2 : ¬ s0 = (0 : Int32) → x2 = 0 → Q (some (.int (hi 12 3))) (hi, sk_hr rr, sk_ks ++ ex))
    (l3 : ¬ s0 = (0 : Int32) → x2 = 1 → Q (some (.int (hi 12 4))) (hi, sk_hr rr, sk_ks ++ ex))
    (l4 : ¬ s0 = (0 : Int32) → x2 = 2 → Q (some (.int (hi 12 5))) (hi, sk_hr rr, sk_ks ++ ex))
    (l5 : ¬ s0 = (0 : Int32) → x2 = 3 → sk_Ct Γ m_X8_lastLetter [.ref 0, .int x1] (hi, sk_hr rr, sk_ks ++ ex) (fun r h' => sk_Go Γ (sk_M Γ m_X8_trace Q) (0, 0) 69 [some (.ref 0), some (.int x1), some (.int x2)] (r.toList ++ []) h'))
    (l6 : s0 = (0 : Int32) → Q (some (.int (-1))) (hi, sk_hr rr, sk_ks ++ ex)) :
    sk_Go Γ (sk_M Γ m_X8_trace Q) (0, 0) 5 [some (.ref 0), some (.int x1), some (.int x2)] [.int s0] (hi, sk_hr rr, sk_ks ++ ex) := by
  refine go_if_ne (tgt := 10) dX8_trace_5 (by decide) (fun c1 => ?_) (fun c1 => ?_)
  · refine go_iload_n dX8_trace_10 rfl ?_
    by_cases c2 : (Int32.toInt x2 < 0 ∨ 3 < Int32.toInt x2)
    · refine go_tout (tgt := 70) dX8_trace_11 c2 (by decide) ?_
      refine go_iconst dX8_trace_70 (v := (-1)) (by decide) ?_
      exact go_iret (μ := m_X8_trace) dX8_trace_71 rfl (Nat.le_of_ble_eq_true rfl) (Nat.le_of_ble_eq_true rfl) (l1 c1 c2)
    · have hlo : ¬ Int32.toInt x2 < 0 := fun q => c2 (Or.inl q)
      have hhi : ¬ 3 < Int32.toInt x2 := fun q => c2 (Or.inr q)
      by_cases hc0 : Int32.toInt x2 = 0
      · have c2 : x2 = 0 := Int32.toInt_inj.mp hc0
        refine go_tin (tgt := 40) (off := 29) dX8_trace_11 hlo hhi (by rw [hc0]; rfl) (by decide) ?_
        refine go_aload_n dX8_trace_40 rfl ?_
        refine go_getR dX8_trace_41 fl_X8_23 rfl rfl (show _ = some 12 from rfl) ?_
        refine go_getI dX8_trace_44 fl_X8_103 rfl rfl ?_
        exact go_iret (μ := m_X8_trace) dX8_trace_47 rfl (Nat.le_of_ble_eq_true rfl) (Nat.le_of_ble_eq_true rfl) (l2 c1 c2)
      · skip
        by_cases hc1 : Int32.toInt x2 = 1
        · have c2 : x2 = 1 := Int32.toInt_inj.mp hc1
          refine go_tin (tgt := 48) (off := 37) dX8_trace_11 hlo hhi (by rw [hc1]; rfl) (by decide) ?_
          refine go_aload_n dX8_trace_48 rfl ?_
          refine go_getR dX8_trace_49 fl_X8_23 rfl rfl (show _ = some 12 from rfl) ?_
          refine go_getI dX8_trace_52 fl_X8_106 rfl rfl ?_
          exact go_iret (μ := m_X8_trace) dX8_trace_55 rfl (Nat.le_of_ble_eq_true rfl) (Nat.le_of_ble_eq_true rfl) (l3 c1 c2)
        · skip
          by_cases hc2 : Int32.toInt x2 = 2
          · have c2 : x2 = 2 := Int32.toInt_inj.mp hc2
            refine go_tin (tgt := 56) (off := 45) dX8_trace_11 hlo hhi (by rw [hc2]; rfl) (by decide) ?_
            refine go_aload_n dX8_trace_56 rfl ?_
            refine go_getR dX8_trace_57 fl_X8_23 rfl rfl (show _ = some 12 from rfl) ?_
            refine go_getI dX8_trace_60 fl_X8_109 rfl rfl ?_
            exact go_iret (μ := m_X8_trace) dX8_trace_63 rfl (Nat.le_of_ble_eq_true rfl) (Nat.le_of_ble_eq_true rfl) (l4 c1 c2)
          · skip
            have hc3 : Int32.toInt x2 = 3 := by omega
            have c2 : x2 = 3 := Int32.toInt_inj.mp hc3
            refine go_tin (tgt := 64) (off := 53) dX8_trace_11 hlo hhi (by rw [hc3]; rfl) (by decide) ?_
            refine go_aload_n dX8_trace_64 rfl ?_
            refine go_iload_n dX8_trace_65 rfl ?_
            refine go_callV (μ := m_X8_lastLetter) (n := 69) (T := TX8) (N := 6) [.int x1] dX8_trace_66 ok_X8_lastLetter ml_X8_112 wx_X8_lastLetter wl_X8_lastLetter (show _ = some (0, 7) from rfl) rfl rfl (Nat.le_of_ble_eq_true rfl) ⟨Nat.le_of_ble_eq_true rfl, Nat.le_of_ble_eq_true rfl⟩ ⟨Nat.le_of_ble_eq_true rfl, Nat.le_of_ble_eq_true rfl⟩ rfl ?_
            exact (l5 c1 c2)
  · refine go_iconst dX8_trace_8 (v := (-1)) (by decide) ?_
    exact go_iret (μ := m_X8_trace) dX8_trace_9 rfl (Nat.le_of_ble_eq_true rfl) (Nat.le_of_ble_eq_true rfl) (l6 c1)
theorem k_X8_trace_69 {x1 x2 s0 : Int32} {hi : Nat → Nat → Int32}
    (l1 : Q (some (.int s0)) (hi, sk_hr rr, sk_ks ++ ex)) :
    sk_Go Γ (sk_M Γ m_X8_trace Q) (0, 0) 69 [some (.ref 0), some (.int x1), some (.int x2)] [.int s0] (hi, sk_hr rr, sk_ks ++ ex) := by
  exact go_iret (μ := m_X8_trace) dX8_trace_69 rfl (Nat.le_of_ble_eq_true rfl) (Nat.le_of_ble_eq_true rfl) l1
theorem k_X8_height_0 {x1 x2 : Int32} {hi : Nat → Nat → Int32}
    (l1 : sk_Ct Γ m_X8_isTone [.int x1, .int x2] (hi, sk_hr rr, sk_ks ++ ex) (fun r h' => sk_Go Γ (sk_M Γ m_X8_height Q) (0, 0) 5 [some (.ref 0), some (.int x1), some (.int x2)] (r.toList ++ []) h')) :
    sk_Go Γ (sk_M Γ m_X8_height Q) (0, 0) 0 [some (.ref 0), some (.int x1), some (.int x2)] [] (hi, sk_hr rr, sk_ks ++ ex) := by
  refine go_iload_n dX8_height_0 rfl ?_
  refine go_iload_n dX8_height_1 rfl ?_
  refine go_callS (μ := m_X8_isTone) (n := 5) [.int x1, .int x2] dX8_height_2 ok_X8_isTone ml_X8_45 wx_X8_isTone rfl (Nat.le_of_ble_eq_true rfl) ⟨Nat.le_of_ble_eq_true rfl, Nat.le_of_ble_eq_true rfl⟩ ⟨Nat.le_of_ble_eq_true rfl, Nat.le_of_ble_eq_true rfl⟩ rfl ?_
  exact l1
theorem k_X8_height_5 {x1 x2 s0 : Int32} {hi : Nat → Nat → Int32}
    (l1 : s0 = (0 : Int32) → Q (some (.int (-1))) (hi, sk_hr rr, sk_ks ++ ex))
    (l2 : ¬ s0 = (0 : Int32) → sk_Ct Γ m_X8_hasTrace [.ref 0, .int x1] (hi, sk_hr rr, sk_ks ++ ex) (fun r h' => sk_Go Γ (sk_M Γ m_X8_height Q) (0, 0) 13 [some (.ref 0), some (.int x1), some (.int x2)] (r.toList ++ []) h')) :
    sk_Go Γ (sk_M Γ m_X8_height Q) (0, 0) 5 [some (.ref 0), some (.int x1), some (.int x2)] [.int s0] (hi, sk_hr rr, sk_ks ++ ex) := by
  refine go_if_eq (tgt := 16) dX8_height_5 (by decide) (fun c1 => ?_) (fun c1 => ?_)
  · refine go_iconst dX8_height_16 (v := (-1)) (by decide) ?_
    exact go_iret (μ := m_X8_height) dX8_height_17 rfl (Nat.le_of_ble_eq_true rfl) (Nat.le_of_ble_eq_true rfl) (l1 c1)
  · refine go_aload_n dX8_height_8 rfl ?_
    refine go_iload_n dX8_height_9 rfl ?_
    refine go_callV (μ := m_X8_hasTrace) (n := 13) (T := TX8) (N := 6) [.int x1] dX8_height_10 ok_X8_hasTrace ml_X8_100 wx_X8_hasTrace wl_X8_hasTrace (show _ = some (0, 7) from rfl) rfl rfl (Nat.le_of_ble_eq_true rfl) ⟨Nat.le_of_ble_eq_true rfl, Nat.le_of_ble_eq_true rfl⟩ ⟨Nat.le_of_ble_eq_true rfl, Nat.le_of_ble_eq_true rfl⟩ rfl ?_
    exact (l2 c1)
theorem k_X8_height_13 {x1 x2 s0 : Int32} {hi : Nat → Nat → Int32}
    (l1 : ¬ s0 = (0 : Int32) → sk_Ct Γ m_X6_heightAt [.ref 12, .int x2] (hi, sk_hr rr, sk_ks ++ ex) (fun r h' => sk_Go Γ (sk_M Γ m_X8_height Q) (0, 0) 26 [some (.ref 0), some (.int x1), some (.int x2)] (r.toList ++ []) h'))
    (l2 : s0 = (0 : Int32) → Q (some (.int (-1))) (hi, sk_hr rr, sk_ks ++ ex)) :
    sk_Go Γ (sk_M Γ m_X8_height Q) (0, 0) 13 [some (.ref 0), some (.int x1), some (.int x2)] [.int s0] (hi, sk_hr rr, sk_ks ++ ex) := by
  refine go_if_ne (tgt := 18) dX8_height_13 (by decide) (fun c1 => ?_) (fun c1 => ?_)
  · refine go_aload_n dX8_height_18 rfl ?_
    refine go_getR dX8_height_19 fl_X8_23 rfl rfl (show _ = some 12 from rfl) ?_
    refine go_iload_n dX8_height_22 rfl ?_
    refine go_callV (μ := m_X6_heightAt) (n := 26) (T := TX6) (N := 6) [.int x2] dX8_height_23 ok_X6_heightAt ml_X8_116 wx_X6_heightAt wl_X6_heightAt (show _ = some (0, 5) from rfl) rfl rfl (Nat.le_of_ble_eq_true rfl) ⟨Nat.le_of_ble_eq_true rfl, Nat.le_of_ble_eq_true rfl⟩ ⟨Nat.le_of_ble_eq_true rfl, Nat.le_of_ble_eq_true rfl⟩ rfl ?_
    exact (l1 c1)
  · refine go_iconst dX8_height_16 (v := (-1)) (by decide) ?_
    exact go_iret (μ := m_X8_height) dX8_height_17 rfl (Nat.le_of_ble_eq_true rfl) (Nat.le_of_ble_eq_true rfl) (l2 c1)
theorem k_X8_height_26 {x1 x2 s0 : Int32} {hi : Nat → Nat → Int32}
    (l1 : Q (some (.int s0)) (hi, sk_hr rr, sk_ks ++ ex)) :
    sk_Go Γ (sk_M Γ m_X8_height Q) (0, 0) 26 [some (.ref 0), some (.int x1), some (.int x2)] [.int s0] (hi, sk_hr rr, sk_ks ++ ex) := by
  exact go_iret (μ := m_X8_height) dX8_height_26 rfl (Nat.le_of_ble_eq_true rfl) (Nat.le_of_ble_eq_true rfl) l1
theorem k_X8_undone_0 {x1 : Int32} {hi : Nat → Nat → Int32}
    (l1 : sk_Ct Γ m_X8_hasTrace [.ref 0, .int x1] (hi, sk_hr rr, sk_ks ++ ex) (fun r h' => sk_Go Γ (sk_M Γ m_X8_undone Q) (0, 0) 5 [some (.ref 0), some (.int x1)] (r.toList ++ []) h')) :
    sk_Go Γ (sk_M Γ m_X8_undone Q) (0, 0) 0 [some (.ref 0), some (.int x1)] [] (hi, sk_hr rr, sk_ks ++ ex) := by
  refine go_aload_n dX8_undone_0 rfl ?_
  refine go_iload_n dX8_undone_1 rfl ?_
  refine go_callV (μ := m_X8_hasTrace) (n := 5) (T := TX8) (N := 6) [.int x1] dX8_undone_2 ok_X8_hasTrace ml_X8_100 wx_X8_hasTrace wl_X8_hasTrace (show _ = some (0, 7) from rfl) rfl rfl (Nat.le_of_ble_eq_true rfl) ⟨Nat.le_of_ble_eq_true rfl, Nat.le_of_ble_eq_true rfl⟩ ⟨Nat.le_of_ble_eq_true rfl, Nat.le_of_ble_eq_true rfl⟩ rfl ?_
  exact l1
theorem k_X8_undone_5 {x1 s0 : Int32} {hi : Nat → Nat → Int32}
    (l1 : s0 = (0 : Int32) → Q (some (.int (-1))) (hi, sk_hr rr, sk_ks ++ ex))
    (l2 : ¬ s0 = (0 : Int32) → Q (some (.int (hi 16 1))) (hi, sk_hr rr, sk_ks ++ ex)) :
    sk_Go Γ (sk_M Γ m_X8_undone Q) (0, 0) 5 [some (.ref 0), some (.int x1)] [.int s0] (hi, sk_hr rr, sk_ks ++ ex) := by
  refine go_if_eq (tgt := 18) dX8_undone_5 (by decide) (fun c1 => ?_) (fun c1 => ?_)
  · refine go_iconst dX8_undone_18 (v := (-1)) (by decide) ?_
    exact go_iret (μ := m_X8_undone) dX8_undone_19 rfl (Nat.le_of_ble_eq_true rfl) (Nat.le_of_ble_eq_true rfl) (l1 c1)
  · refine go_aload_n dX8_undone_8 rfl ?_
    refine go_getR dX8_undone_9 fl_X8_30 rfl rfl (show _ = some 16 from rfl) ?_
    refine go_getI dX8_undone_12 fl_X8_119 rfl rfl ?_
    refine go_goto (tgt := 19) dX8_undone_15 (by decide) ?_
    exact go_iret (μ := m_X8_undone) dX8_undone_19 rfl (Nat.le_of_ble_eq_true rfl) (Nat.le_of_ble_eq_true rfl) (l2 c1)
theorem k_X8_place_0 {x1 x2 x3 : Int32} {hi : Nat → Nat → Int32}
    (l1 : sk_Ct Γ m_X8_hasTrace [.ref 0, .int x1] (hi, sk_hr rr, sk_ks ++ ex) (fun r h' => sk_Go Γ (sk_M Γ m_X8_place Q) (0, 0) 5 [some (.ref 0), some (.int x1), some (.int x2), some (.int x3)] (r.toList ++ []) h')) :
    sk_Go Γ (sk_M Γ m_X8_place Q) (0, 0) 0 [some (.ref 0), some (.int x1), some (.int x2), some (.int x3)] [] (hi, sk_hr rr, sk_ks ++ ex) := by
  refine go_aload_n dX8_place_0 rfl ?_
  refine go_iload_n dX8_place_1 rfl ?_
  refine go_callV (μ := m_X8_hasTrace) (n := 5) (T := TX8) (N := 6) [.int x1] dX8_place_2 ok_X8_hasTrace ml_X8_100 wx_X8_hasTrace wl_X8_hasTrace (show _ = some (0, 7) from rfl) rfl rfl (Nat.le_of_ble_eq_true rfl) ⟨Nat.le_of_ble_eq_true rfl, Nat.le_of_ble_eq_true rfl⟩ ⟨Nat.le_of_ble_eq_true rfl, Nat.le_of_ble_eq_true rfl⟩ rfl ?_
  exact l1
theorem k_X8_place_5 {x1 x2 x3 s0 : Int32} {hi : Nat → Nat → Int32}
    (l1 : s0 = (0 : Int32) → Q (some (.int (-1))) (hi, sk_hr rr, sk_ks ++ ex))
    (l2 : ¬ s0 = (0 : Int32) → sk_Ct Γ m_X8_within [.int x2, .int 0, .int ((hi 16 1) - 1)] (hi, sk_hr rr, sk_ks ++ ex) (fun r h' => sk_Go Γ (sk_M Γ m_X8_place Q) (0, 0) 22 [some (.ref 0), some (.int x1), some (.int x2), some (.int x3)] (r.toList ++ []) h')) :
    sk_Go Γ (sk_M Γ m_X8_place Q) (0, 0) 5 [some (.ref 0), some (.int x1), some (.int x2), some (.int x3)] [.int s0] (hi, sk_hr rr, sk_ks ++ ex) := by
  refine go_if_eq (tgt := 25) dX8_place_5 (by decide) (fun c1 => ?_) (fun c1 => ?_)
  · refine go_iconst dX8_place_25 (v := (-1)) (by decide) ?_
    exact go_iret (μ := m_X8_place) dX8_place_26 rfl (Nat.le_of_ble_eq_true rfl) (Nat.le_of_ble_eq_true rfl) (l1 c1)
  · refine go_iload_n dX8_place_8 rfl ?_
    refine go_iconst dX8_place_9 (v := 0) (by decide) ?_
    refine go_aload_n dX8_place_10 rfl ?_
    refine go_getR dX8_place_11 fl_X8_30 rfl rfl (show _ = some 16 from rfl) ?_
    refine go_getI dX8_place_14 fl_X8_119 rfl rfl ?_
    refine go_iconst dX8_place_17 (v := 1) (by decide) ?_
    refine go_isub dX8_place_18 ?_
    refine go_callS (μ := m_X8_within) (n := 22) [.int x2, .int 0, .int ((hi 16 1) - 1)] dX8_place_19 ok_X8_within ml_X8_49 wx_X8_within rfl (Nat.le_of_ble_eq_true rfl) ⟨Nat.le_of_ble_eq_true rfl, Nat.le_of_ble_eq_true rfl⟩ ⟨Nat.le_of_ble_eq_true rfl, Nat.le_of_ble_eq_true rfl⟩ rfl ?_
    exact (l2 c1)
theorem k_X8_place_22 {x1 x2 x3 s0 : Int32} {hi : Nat → Nat → Int32}
    (l1 : ¬ s0 = (0 : Int32) → (Int32.toInt x3 < 0 ∨ 2 < Int32.toInt x3) → Q (some (.int (-1))) (hi, sk_hr rr, sk_ks ++ ex))
    (l2 : ¬ s0 = (0 : Int32) → x3 = 0 → sk_Ct Γ m_X7_stepAt [.ref 16, .int x2] (hi, sk_hr rr, sk_ks ++ ex) (fun r h' => sk_Go Γ (sk_M Γ m_X8_place Q) (0, 0) 64 [some (.ref 0), some (.int x1), some (.int x2), some (.int x3)] (r.toList ++ []) h'))
    (l3 : ¬ s0 = (0 : Int32) → x3 = 1 → sk_Ct Γ m_X7_trueHeightAt [.ref 16, .int x2] (hi, sk_hr rr, sk_ks ++ ex) (fun r h' => sk_Go Γ (sk_M Γ m_X8_place Q) (0, 0) 73 [some (.ref 0), some (.int x1), some (.int x2), some (.int x3)] (r.toList ++ []) h'))
    (l4 : ¬ s0 = (0 : Int32) → x3 = 2 → sk_Ct Γ m_X7_madeAgain [.ref 16, .int x2] (hi, sk_hr rr, sk_ks ++ ex) (fun r h' => sk_Go Γ (sk_M Γ m_X8_place Q) (0, 0) 82 [some (.ref 0), some (.int x1), some (.int x2), some (.int x3)] (r.toList ++ []) h'))
    (l5 : s0 = (0 : Int32) → Q (some (.int (-1))) (hi, sk_hr rr, sk_ks ++ ex)) :
    sk_Go Γ (sk_M Γ m_X8_place Q) (0, 0) 22 [some (.ref 0), some (.int x1), some (.int x2), some (.int x3)] [.int s0] (hi, sk_hr rr, sk_ks ++ ex) := by
  refine go_if_ne (tgt := 27) dX8_place_22 (by decide) (fun c1 => ?_) (fun c1 => ?_)
  · refine go_iload_n dX8_place_27 rfl ?_
    by_cases c2 : (Int32.toInt x3 < 0 ∨ 2 < Int32.toInt x3)
    · refine go_tout (tgt := 83) dX8_place_28 c2 (by decide) ?_
      refine go_iconst dX8_place_83 (v := (-1)) (by decide) ?_
      exact go_iret (μ := m_X8_place) dX8_place_84 rfl (Nat.le_of_ble_eq_true rfl) (Nat.le_of_ble_eq_true rfl) (l1 c1 c2)
    · have hlo : ¬ Int32.toInt x3 < 0 := fun q => c2 (Or.inl q)
      have hhi : ¬ 2 < Int32.toInt x3 := fun q => c2 (Or.inr q)
      by_cases hc0 : Int32.toInt x3 = 0
      · have c2 : x3 = 0 := Int32.toInt_inj.mp hc0
        refine go_tin (tgt := 56) (off := 28) dX8_place_28 hlo hhi (by rw [hc0]; rfl) (by decide) ?_
        refine go_aload_n dX8_place_56 rfl ?_
        refine go_getR dX8_place_57 fl_X8_30 rfl rfl (show _ = some 16 from rfl) ?_
        refine go_iload_n dX8_place_60 rfl ?_
        refine go_callV (μ := m_X7_stepAt) (n := 64) (T := TX7) (N := 2) [.int x2] dX8_place_61 ok_X7_stepAt ml_X8_122 wx_X7_stepAt wl_X7_stepAt (show _ = some (0, 6) from rfl) rfl rfl (Nat.le_of_ble_eq_true rfl) ⟨Nat.le_of_ble_eq_true rfl, Nat.le_of_ble_eq_true rfl⟩ ⟨Nat.le_of_ble_eq_true rfl, Nat.le_of_ble_eq_true rfl⟩ rfl ?_
        exact (l2 c1 c2)
      · skip
        by_cases hc1 : Int32.toInt x3 = 1
        · have c2 : x3 = 1 := Int32.toInt_inj.mp hc1
          refine go_tin (tgt := 65) (off := 37) dX8_place_28 hlo hhi (by rw [hc1]; rfl) (by decide) ?_
          refine go_aload_n dX8_place_65 rfl ?_
          refine go_getR dX8_place_66 fl_X8_30 rfl rfl (show _ = some 16 from rfl) ?_
          refine go_iload_n dX8_place_69 rfl ?_
          refine go_callV (μ := m_X7_trueHeightAt) (n := 73) (T := TX7) (N := 2) [.int x2] dX8_place_70 ok_X7_trueHeightAt ml_X8_125 wx_X7_trueHeightAt wl_X7_trueHeightAt (show _ = some (0, 6) from rfl) rfl rfl (Nat.le_of_ble_eq_true rfl) ⟨Nat.le_of_ble_eq_true rfl, Nat.le_of_ble_eq_true rfl⟩ ⟨Nat.le_of_ble_eq_true rfl, Nat.le_of_ble_eq_true rfl⟩ rfl ?_
          exact (l3 c1 c2)
        · skip
          have hc2 : Int32.toInt x3 = 2 := by omega
          have c2 : x3 = 2 := Int32.toInt_inj.mp hc2
          refine go_tin (tgt := 74) (off := 46) dX8_place_28 hlo hhi (by rw [hc2]; rfl) (by decide) ?_
          refine go_aload_n dX8_place_74 rfl ?_
          refine go_getR dX8_place_75 fl_X8_30 rfl rfl (show _ = some 16 from rfl) ?_
          refine go_iload_n dX8_place_78 rfl ?_
          refine go_callV (μ := m_X7_madeAgain) (n := 82) (T := TX7) (N := 2) [.int x2] dX8_place_79 ok_X7_madeAgain ml_X8_128 wx_X7_madeAgain wl_X7_madeAgain (show _ = some (0, 6) from rfl) rfl rfl (Nat.le_of_ble_eq_true rfl) ⟨Nat.le_of_ble_eq_true rfl, Nat.le_of_ble_eq_true rfl⟩ ⟨Nat.le_of_ble_eq_true rfl, Nat.le_of_ble_eq_true rfl⟩ rfl ?_
          exact (l4 c1 c2)
  · refine go_iconst dX8_place_25 (v := (-1)) (by decide) ?_
    exact go_iret (μ := m_X8_place) dX8_place_26 rfl (Nat.le_of_ble_eq_true rfl) (Nat.le_of_ble_eq_true rfl) (l5 c1)
theorem k_X8_place_64 {x1 x2 x3 s0 : Int32} {hi : Nat → Nat → Int32}
    (l1 : Q (some (.int s0)) (hi, sk_hr rr, sk_ks ++ ex)) :
    sk_Go Γ (sk_M Γ m_X8_place Q) (0, 0) 64 [some (.ref 0), some (.int x1), some (.int x2), some (.int x3)] [.int s0] (hi, sk_hr rr, sk_ks ++ ex) := by
  exact go_iret (μ := m_X8_place) dX8_place_64 rfl (Nat.le_of_ble_eq_true rfl) (Nat.le_of_ble_eq_true rfl) l1
theorem k_X8_place_73 {x1 x2 x3 s0 : Int32} {hi : Nat → Nat → Int32}
    (l1 : Q (some (.int s0)) (hi, sk_hr rr, sk_ks ++ ex)) :
    sk_Go Γ (sk_M Γ m_X8_place Q) (0, 0) 73 [some (.ref 0), some (.int x1), some (.int x2), some (.int x3)] [.int s0] (hi, sk_hr rr, sk_ks ++ ex) := by
  exact go_iret (μ := m_X8_place) dX8_place_73 rfl (Nat.le_of_ble_eq_true rfl) (Nat.le_of_ble_eq_true rfl) l1
theorem k_X8_place_82 {x1 x2 x3 s0 : Int32} {hi : Nat → Nat → Int32}
    (l1 : Q (some (.int s0)) (hi, sk_hr rr, sk_ks ++ ex)) :
    sk_Go Γ (sk_M Γ m_X8_place Q) (0, 0) 82 [some (.ref 0), some (.int x1), some (.int x2), some (.int x3)] [.int s0] (hi, sk_hr rr, sk_ks ++ ex) := by
  exact go_iret (μ := m_X8_place) dX8_place_82 rfl (Nat.le_of_ble_eq_true rfl) (Nat.le_of_ble_eq_true rfl) l1
theorem k_X8_isDay_0 {x0 x1 : Int32} {hi : Nat → Nat → Int32}
    (l1 : sk_Ct Γ m_X8_within [.int x0, .int 0, .int 23] (hi, sk_hr rr, sk_ks ++ ex) (fun r h' => sk_Go Γ (sk_M Γ m_X8_isDay Q) (0, 0) 7 [some (.int x0), some (.int x1)] (r.toList ++ []) h')) :
    sk_Go Γ (sk_M Γ m_X8_isDay Q) (0, 0) 0 [some (.int x0), some (.int x1)] [] (hi, sk_hr rr, sk_ks ++ ex) := by
  refine go_iload_n dX8_isDay_0 rfl ?_
  refine go_iconst dX8_isDay_1 (v := 0) (by decide) ?_
  refine go_bipush dX8_isDay_2 (v := 23) (by decide) ?_
  refine go_callS (μ := m_X8_within) (n := 7) [.int x0, .int 0, .int 23] dX8_isDay_4 ok_X8_within ml_X8_49 wx_X8_within rfl (Nat.le_of_ble_eq_true rfl) ⟨Nat.le_of_ble_eq_true rfl, Nat.le_of_ble_eq_true rfl⟩ ⟨Nat.le_of_ble_eq_true rfl, Nat.le_of_ble_eq_true rfl⟩ rfl ?_
  exact l1
theorem k_X8_isDay_7 {x0 x1 s0 : Int32} {hi : Nat → Nat → Int32}
    (l1 : s0 = (0 : Int32) → Q (some (.int 0)) (hi, sk_hr rr, sk_ks ++ ex))
    (l2 : ¬ s0 = (0 : Int32) → sk_Ct Γ m_X8_within [.int x1, .int 0, .int 30] (hi, sk_hr rr, sk_ks ++ ex) (fun r h' => sk_Go Γ (sk_M Γ m_X8_isDay Q) (0, 0) 17 [some (.int x0), some (.int x1)] (r.toList ++ []) h')) :
    sk_Go Γ (sk_M Γ m_X8_isDay Q) (0, 0) 7 [some (.int x0), some (.int x1)] [.int s0] (hi, sk_hr rr, sk_ks ++ ex) := by
  refine go_if_eq (tgt := 24) dX8_isDay_7 (by decide) (fun c1 => ?_) (fun c1 => ?_)
  · refine go_iconst dX8_isDay_24 (v := 0) (by decide) ?_
    exact go_zret (μ := m_X8_isDay) dX8_isDay_25 rfl rfl (Nat.le_of_ble_eq_true rfl) (Nat.le_of_ble_eq_true rfl) (l1 c1)
  · refine go_iload_n dX8_isDay_10 rfl ?_
    refine go_iconst dX8_isDay_11 (v := 0) (by decide) ?_
    refine go_bipush dX8_isDay_12 (v := 30) (by decide) ?_
    refine go_callS (μ := m_X8_within) (n := 17) [.int x1, .int 0, .int 30] dX8_isDay_14 ok_X8_within ml_X8_49 wx_X8_within rfl (Nat.le_of_ble_eq_true rfl) ⟨Nat.le_of_ble_eq_true rfl, Nat.le_of_ble_eq_true rfl⟩ ⟨Nat.le_of_ble_eq_true rfl, Nat.le_of_ble_eq_true rfl⟩ rfl ?_
    exact (l2 c1)
theorem k_X8_isDay_17 {x0 x1 s0 : Int32} {hi : Nat → Nat → Int32}
    (l1 : s0 = (0 : Int32) → Q (some (.int 0)) (hi, sk_hr rr, sk_ks ++ ex))
    (l2 : ¬ s0 = (0 : Int32) → Q (some (.int 1)) (hi, sk_hr rr, sk_ks ++ ex)) :
    sk_Go Γ (sk_M Γ m_X8_isDay Q) (0, 0) 17 [some (.int x0), some (.int x1)] [.int s0] (hi, sk_hr rr, sk_ks ++ ex) := by
  refine go_if_eq (tgt := 24) dX8_isDay_17 (by decide) (fun c1 => ?_) (fun c1 => ?_)
  · refine go_iconst dX8_isDay_24 (v := 0) (by decide) ?_
    exact go_zret (μ := m_X8_isDay) dX8_isDay_25 rfl rfl (Nat.le_of_ble_eq_true rfl) (Nat.le_of_ble_eq_true rfl) (l1 c1)
  · refine go_iconst dX8_isDay_20 (v := 1) (by decide) ?_
    refine go_goto (tgt := 25) dX8_isDay_21 (by decide) ?_
    exact go_zret (μ := m_X8_isDay) dX8_isDay_25 rfl rfl (Nat.le_of_ble_eq_true rfl) (Nat.le_of_ble_eq_true rfl) (l2 c1)
theorem k_X8_isValue_0 {x0 : Int32} {hi : Nat → Nat → Int32}
    (l1 : sk_Ct Γ m_X8_within [.int x0, .int 0, .int 999] (hi, sk_hr rr, sk_ks ++ ex) (fun r h' => sk_Go Γ (sk_M Γ m_X8_isValue Q) (0, 0) 8 [some (.int x0)] (r.toList ++ []) h')) :
    sk_Go Γ (sk_M Γ m_X8_isValue Q) (0, 0) 0 [some (.int x0)] [] (hi, sk_hr rr, sk_ks ++ ex) := by
  refine go_iload_n dX8_isValue_0 rfl ?_
  refine go_iconst dX8_isValue_1 (v := 0) (by decide) ?_
  refine go_sipush dX8_isValue_2 (v := 999) (by decide) ?_
  refine go_callS (μ := m_X8_within) (n := 8) [.int x0, .int 0, .int 999] dX8_isValue_5 ok_X8_within ml_X8_49 wx_X8_within rfl (Nat.le_of_ble_eq_true rfl) ⟨Nat.le_of_ble_eq_true rfl, Nat.le_of_ble_eq_true rfl⟩ ⟨Nat.le_of_ble_eq_true rfl, Nat.le_of_ble_eq_true rfl⟩ rfl ?_
  exact l1
theorem k_X8_isValue_8 {x0 s0 : Int32} {hi : Nat → Nat → Int32}
    (o1 : narrow .boolean (.int s0) = .int s0)
    (l1 : Q (some (.int s0)) (hi, sk_hr rr, sk_ks ++ ex)) :
    sk_Go Γ (sk_M Γ m_X8_isValue Q) (0, 0) 8 [some (.int x0)] [.int s0] (hi, sk_hr rr, sk_ks ++ ex) := by
  exact go_zret (μ := m_X8_isValue) dX8_isValue_8 rfl o1 (Nat.le_of_ble_eq_true rfl) (Nat.le_of_ble_eq_true rfl) l1
theorem k_X8_value_0 {x1 x2 x3 x4 : Int32} {hi : Nat → Nat → Int32}
    (l1 : sk_Ct Γ m_X8_isDay [.int x1, .int x2] (hi, sk_hr rr, sk_ks ++ ex) (fun r h' => sk_Go Γ (sk_M Γ m_X8_value Q) (0, 0) 5 [some (.ref 0), some (.int x1), some (.int x2), some (.int x3), some (.int x4)] (r.toList ++ []) h')) :
    sk_Go Γ (sk_M Γ m_X8_value Q) (0, 0) 0 [some (.ref 0), some (.int x1), some (.int x2), some (.int x3), some (.int x4)] [] (hi, sk_hr rr, sk_ks ++ ex) := by
  refine go_iload_n dX8_value_0 rfl ?_
  refine go_iload_n dX8_value_1 rfl ?_
  refine go_callS (μ := m_X8_isDay) (n := 5) [.int x1, .int x2] dX8_value_2 ok_X8_isDay ml_X8_131 wx_X8_isDay rfl (Nat.le_of_ble_eq_true rfl) ⟨Nat.le_of_ble_eq_true rfl, Nat.le_of_ble_eq_true rfl⟩ ⟨Nat.le_of_ble_eq_true rfl, Nat.le_of_ble_eq_true rfl⟩ rfl ?_
  exact l1
theorem k_X8_value_5 {x1 x2 x3 x4 s0 : Int32} {hi : Nat → Nat → Int32}
    (l1 : s0 = (0 : Int32) → Q (some (.int 0)) (hi, sk_hr rr, sk_ks ++ ex))
    (l2 : ¬ s0 = (0 : Int32) → sk_Ct Γ m_X8_isValue [.int x3] (hi, sk_hr rr, sk_ks ++ ex) (fun r h' => sk_Go Γ (sk_M Γ m_X8_value Q) (0, 0) 12 [some (.ref 0), some (.int x1), some (.int x2), some (.int x3), some (.int x4)] (r.toList ++ []) h')) :
    sk_Go Γ (sk_M Γ m_X8_value Q) (0, 0) 5 [some (.ref 0), some (.int x1), some (.int x2), some (.int x3), some (.int x4)] [.int s0] (hi, sk_hr rr, sk_ks ++ ex) := by
  refine go_if_eq (tgt := 25) dX8_value_5 (by decide) (fun c1 => ?_) (fun c1 => ?_)
  · refine go_iconst dX8_value_25 (v := 0) (by decide) ?_
    exact go_zret (μ := m_X8_value) dX8_value_26 rfl rfl (Nat.le_of_ble_eq_true rfl) (Nat.le_of_ble_eq_true rfl) (l1 c1)
  · refine go_iload_n dX8_value_8 rfl ?_
    refine go_callS (μ := m_X8_isValue) (n := 12) [.int x3] dX8_value_9 ok_X8_isValue ml_X8_134 wx_X8_isValue rfl (Nat.le_of_ble_eq_true rfl) ⟨Nat.le_of_ble_eq_true rfl, Nat.le_of_ble_eq_true rfl⟩ ⟨Nat.le_of_ble_eq_true rfl, Nat.le_of_ble_eq_true rfl⟩ rfl ?_
    exact (l2 c1)
theorem k_X8_value_12 {x1 x2 x3 x4 s0 : Int32} {hi : Nat → Nat → Int32}
    (l1 : s0 = (0 : Int32) → Q (some (.int 0)) (hi, sk_hr rr, sk_ks ++ ex))
    (l2 : ¬ s0 = (0 : Int32) → sk_Ct Γ m_X8_within [.int x4, .int 0, .int 2] (hi, sk_hr rr, sk_ks ++ ex) (fun r h' => sk_Go Γ (sk_M Γ m_X8_value Q) (0, 0) 22 [some (.ref 0), some (.int x1), some (.int x2), some (.int x3), some (.int x4)] (r.toList ++ []) h')) :
    sk_Go Γ (sk_M Γ m_X8_value Q) (0, 0) 12 [some (.ref 0), some (.int x1), some (.int x2), some (.int x3), some (.int x4)] [.int s0] (hi, sk_hr rr, sk_ks ++ ex) := by
  refine go_if_eq (tgt := 25) dX8_value_12 (by decide) (fun c1 => ?_) (fun c1 => ?_)
  · refine go_iconst dX8_value_25 (v := 0) (by decide) ?_
    exact go_zret (μ := m_X8_value) dX8_value_26 rfl rfl (Nat.le_of_ble_eq_true rfl) (Nat.le_of_ble_eq_true rfl) (l1 c1)
  · refine go_iload dX8_value_15 rfl ?_
    refine go_iconst dX8_value_17 (v := 0) (by decide) ?_
    refine go_iconst dX8_value_18 (v := 2) (by decide) ?_
    refine go_callS (μ := m_X8_within) (n := 22) [.int x4, .int 0, .int 2] dX8_value_19 ok_X8_within ml_X8_49 wx_X8_within rfl (Nat.le_of_ble_eq_true rfl) ⟨Nat.le_of_ble_eq_true rfl, Nat.le_of_ble_eq_true rfl⟩ ⟨Nat.le_of_ble_eq_true rfl, Nat.le_of_ble_eq_true rfl⟩ rfl ?_
    exact (l2 c1)
theorem k_X8_value_22 {x1 x2 x3 x4 s0 : Int32} {hi : Nat → Nat → Int32}
    (l1 : ¬ s0 = (0 : Int32) → sk_Ct Γ m_X5_put [.ref 5, .int x1, .int x2, .int x3, .int x4] (hi, sk_hr rr, sk_ks ++ ex) (fun r h' => sk_Go Γ (sk_M Γ m_X8_value Q) (0, 0) 42 [some (.ref 0), some (.int x1), some (.int x2), some (.int x3), some (.int x4)] (r.toList ++ []) h'))
    (l2 : s0 = (0 : Int32) → Q (some (.int 0)) (hi, sk_hr rr, sk_ks ++ ex)) :
    sk_Go Γ (sk_M Γ m_X8_value Q) (0, 0) 22 [some (.ref 0), some (.int x1), some (.int x2), some (.int x3), some (.int x4)] [.int s0] (hi, sk_hr rr, sk_ks ++ ex) := by
  refine go_if_ne (tgt := 27) dX8_value_22 (by decide) (fun c1 => ?_) (fun c1 => ?_)
  · refine go_aload_n dX8_value_27 rfl ?_
    refine go_getR dX8_value_28 fl_X8_10 rfl rfl (show _ = some 1 from rfl) ?_
    refine go_getR dX8_value_31 fl_X8_137 rfl rfl (show _ = some 5 from rfl) ?_
    refine go_iload_n dX8_value_34 rfl ?_
    refine go_iload_n dX8_value_35 rfl ?_
    refine go_iload_n dX8_value_36 rfl ?_
    refine go_iload dX8_value_37 rfl ?_
    refine go_callV (μ := m_X5_put) (n := 42) (T := TX5) (N := 1) [.int x1, .int x2, .int x3, .int x4] dX8_value_39 ok_X5_put ml_X8_141 wx_X5_put wl_X5_put (show _ = some (0, 4) from rfl) rfl rfl (Nat.le_of_ble_eq_true rfl) ⟨Nat.le_of_ble_eq_true rfl, Nat.le_of_ble_eq_true rfl⟩ ⟨Nat.le_of_ble_eq_true rfl, Nat.le_of_ble_eq_true rfl⟩ rfl ?_
    exact (l1 c1)
  · refine go_iconst dX8_value_25 (v := 0) (by decide) ?_
    exact go_zret (μ := m_X8_value) dX8_value_26 rfl rfl (Nat.le_of_ble_eq_true rfl) (Nat.le_of_ble_eq_true rfl) (l2 c1)
theorem k_X8_value_42 {x1 x2 x3 x4 : Int32} {hi : Nat → Nat → Int32}
    (l1 : Q (some (.int 1)) (hi, sk_hr rr, sk_ks ++ ex)) :
    sk_Go Γ (sk_M Γ m_X8_value Q) (0, 0) 42 [some (.ref 0), some (.int x1), some (.int x2), some (.int x3), some (.int x4)] [] (hi, sk_hr rr, sk_ks ++ ex) := by
  refine go_iconst dX8_value_42 (v := 1) (by decide) ?_
  exact go_zret (μ := m_X8_value) dX8_value_43 rfl rfl (Nat.le_of_ble_eq_true rfl) (Nat.le_of_ble_eq_true rfl) l1
theorem k_X8_scale_0 {x1 x2 x3 : Int32} {hi : Nat → Nat → Int32}
    (l1 : sk_Ct Γ m_X8_isBoard [.int x1] (hi, sk_hr rr, sk_ks ++ ex) (fun r h' => sk_Go Γ (sk_M Γ m_X8_scale Q) (0, 0) 4 [some (.ref 0), some (.int x1), some (.int x2), some (.int x3)] (r.toList ++ []) h')) :
    sk_Go Γ (sk_M Γ m_X8_scale Q) (0, 0) 0 [some (.ref 0), some (.int x1), some (.int x2), some (.int x3)] [] (hi, sk_hr rr, sk_ks ++ ex) := by
  refine go_iload_n dX8_scale_0 rfl ?_
  refine go_callS (μ := m_X8_isBoard) (n := 4) [.int x1] dX8_scale_1 ok_X8_isBoard ml_X8_76 wx_X8_isBoard rfl (Nat.le_of_ble_eq_true rfl) ⟨Nat.le_of_ble_eq_true rfl, Nat.le_of_ble_eq_true rfl⟩ ⟨Nat.le_of_ble_eq_true rfl, Nat.le_of_ble_eq_true rfl⟩ rfl ?_
  exact l1
theorem k_X8_scale_4 {x1 x2 x3 s0 : Int32} {hi : Nat → Nat → Int32}
    (l1 : s0 = (0 : Int32) → Q (some (.int 0)) (hi, sk_hr rr, sk_ks ++ ex))
    (l2 : ¬ s0 = (0 : Int32) → sk_Ct Γ m_X8_isDay [.int x2, .int x3] (hi, sk_hr rr, sk_ks ++ ex) (fun r h' => sk_Go Γ (sk_M Γ m_X8_scale Q) (0, 0) 12 [some (.ref 0), some (.int x1), some (.int x2), some (.int x3)] (r.toList ++ []) h')) :
    sk_Go Γ (sk_M Γ m_X8_scale Q) (0, 0) 4 [some (.ref 0), some (.int x1), some (.int x2), some (.int x3)] [.int s0] (hi, sk_hr rr, sk_ks ++ ex) := by
  refine go_if_eq (tgt := 15) dX8_scale_4 (by decide) (fun c1 => ?_) (fun c1 => ?_)
  · refine go_iconst dX8_scale_15 (v := 0) (by decide) ?_
    exact go_zret (μ := m_X8_scale) dX8_scale_16 rfl rfl (Nat.le_of_ble_eq_true rfl) (Nat.le_of_ble_eq_true rfl) (l1 c1)
  · refine go_iload_n dX8_scale_7 rfl ?_
    refine go_iload_n dX8_scale_8 rfl ?_
    refine go_callS (μ := m_X8_isDay) (n := 12) [.int x2, .int x3] dX8_scale_9 ok_X8_isDay ml_X8_131 wx_X8_isDay rfl (Nat.le_of_ble_eq_true rfl) ⟨Nat.le_of_ble_eq_true rfl, Nat.le_of_ble_eq_true rfl⟩ ⟨Nat.le_of_ble_eq_true rfl, Nat.le_of_ble_eq_true rfl⟩ rfl ?_
    exact (l2 c1)
theorem k_X8_scale_12 {x1 x2 x3 s0 : Int32} {hi : Nat → Nat → Int32}
    (l1 : ¬ s0 = (0 : Int32) → sk_Ct Γ m_X8_hasTrace [.ref 0, .int x1] (hi, sk_hr rr, sk_ks ++ ex) (fun r h' => sk_Go Γ (sk_M Γ m_X8_scale Q) (0, 0) 22 [some (.ref 0), some (.int x1), some (.int x2), some (.int x3)] (r.toList ++ []) h'))
    (l2 : s0 = (0 : Int32) → Q (some (.int 0)) (hi, sk_hr rr, sk_ks ++ ex)) :
    sk_Go Γ (sk_M Γ m_X8_scale Q) (0, 0) 12 [some (.ref 0), some (.int x1), some (.int x2), some (.int x3)] [.int s0] (hi, sk_hr rr, sk_ks ++ ex) := by
  refine go_if_ne (tgt := 17) dX8_scale_12 (by decide) (fun c1 => ?_) (fun c1 => ?_)
  · refine go_aload_n dX8_scale_17 rfl ?_
    refine go_iload_n dX8_scale_18 rfl ?_
    refine go_callV (μ := m_X8_hasTrace) (n := 22) (T := TX8) (N := 6) [.int x1] dX8_scale_19 ok_X8_hasTrace ml_X8_100 wx_X8_hasTrace wl_X8_hasTrace (show _ = some (0, 7) from rfl) rfl rfl (Nat.le_of_ble_eq_true rfl) ⟨Nat.le_of_ble_eq_true rfl, Nat.le_of_ble_eq_true rfl⟩ ⟨Nat.le_of_ble_eq_true rfl, Nat.le_of_ble_eq_true rfl⟩ rfl ?_
    exact (l1 c1)
  · refine go_iconst dX8_scale_15 (v := 0) (by decide) ?_
    exact go_zret (μ := m_X8_scale) dX8_scale_16 rfl rfl (Nat.le_of_ble_eq_true rfl) (Nat.le_of_ble_eq_true rfl) (l2 c1)
theorem k_X8_scale_22 {x1 x2 x3 s0 : Int32} {hi : Nat → Nat → Int32}
    (l1 : s0 = (0 : Int32) → sk_Ct Γ m_X5_drop [.ref 5, .int x2, .int x3] (hi, sk_hr rr, sk_ks ++ ex) (fun r h' => sk_Go Γ (sk_M Γ m_X8_scale Q) (0, 0) 67 [some (.ref 0), some (.int x1), some (.int x2), some (.int x3)] (r.toList ++ []) h'))
    (l2 : ¬ s0 = (0 : Int32) → sk_Ct Γ m_X8_lastLetter [.ref 0, .int x1] (hi, sk_hr rr, sk_ks ++ ex) (fun r h' => sk_Go Γ (sk_M Γ m_X8_scale Q) (0, 0) 49 [some (.ref 0), some (.int x1), some (.int x2), some (.int x3)] (r.toList ++ [.int ((hi 12 5) * 10), .int x3, .int x2, .ref 5]) h')) :
    sk_Go Γ (sk_M Γ m_X8_scale Q) (0, 0) 22 [some (.ref 0), some (.int x1), some (.int x2), some (.int x3)] [.int s0] (hi, sk_hr rr, sk_ks ++ ex) := by
  refine go_if_eq (tgt := 55) dX8_scale_22 (by decide) (fun c1 => ?_) (fun c1 => ?_)
  · refine go_aload_n dX8_scale_55 rfl ?_
    refine go_getR dX8_scale_56 fl_X8_10 rfl rfl (show _ = some 1 from rfl) ?_
    refine go_getR dX8_scale_59 fl_X8_137 rfl rfl (show _ = some 5 from rfl) ?_
    refine go_iload_n dX8_scale_62 rfl ?_
    refine go_iload_n dX8_scale_63 rfl ?_
    refine go_callV (μ := m_X5_drop) (n := 67) (T := TX5) (N := 1) [.int x2, .int x3] dX8_scale_64 ok_X5_drop ml_X8_146 wx_X5_drop wl_X5_drop (show _ = some (0, 4) from rfl) rfl rfl (Nat.le_of_ble_eq_true rfl) ⟨Nat.le_of_ble_eq_true rfl, Nat.le_of_ble_eq_true rfl⟩ ⟨Nat.le_of_ble_eq_true rfl, Nat.le_of_ble_eq_true rfl⟩ rfl ?_
    exact (l1 c1)
  · refine go_aload_n dX8_scale_25 rfl ?_
    refine go_getR dX8_scale_26 fl_X8_10 rfl rfl (show _ = some 1 from rfl) ?_
    refine go_getR dX8_scale_29 fl_X8_137 rfl rfl (show _ = some 5 from rfl) ?_
    refine go_iload_n dX8_scale_32 rfl ?_
    refine go_iload_n dX8_scale_33 rfl ?_
    refine go_aload_n dX8_scale_34 rfl ?_
    refine go_getR dX8_scale_35 fl_X8_23 rfl rfl (show _ = some 12 from rfl) ?_
    refine go_getI dX8_scale_38 fl_X8_109 rfl rfl ?_
    refine go_bipush dX8_scale_41 (v := 10) (by decide) ?_
    refine go_imul dX8_scale_43 ?_
    refine go_aload_n dX8_scale_44 rfl ?_
    refine go_iload_n dX8_scale_45 rfl ?_
    refine go_callV (μ := m_X8_lastLetter) (n := 49) (T := TX8) (N := 6) [.int x1] dX8_scale_46 ok_X8_lastLetter ml_X8_112 wx_X8_lastLetter wl_X8_lastLetter (show _ = some (0, 7) from rfl) rfl rfl (Nat.le_of_ble_eq_true rfl) ⟨Nat.le_of_ble_eq_true rfl, Nat.le_of_ble_eq_true rfl⟩ ⟨Nat.le_of_ble_eq_true rfl, Nat.le_of_ble_eq_true rfl⟩ rfl ?_
    exact (l2 c1)
theorem k_X8_scale_49 {x1 x2 x3 s4 s3 s2 s1 : Int32} {hi : Nat → Nat → Int32}
    (l1 : sk_Ct Γ m_X5_put [.ref 5, .int s1, .int s2, .int s3, .int s4] (hi, sk_hr rr, sk_ks ++ ex) (fun r h' => sk_Go Γ (sk_M Γ m_X8_scale Q) (0, 0) 52 [some (.ref 0), some (.int x1), some (.int x2), some (.int x3)] (r.toList ++ []) h')) :
    sk_Go Γ (sk_M Γ m_X8_scale Q) (0, 0) 49 [some (.ref 0), some (.int x1), some (.int x2), some (.int x3)] [.int s4, .int s3, .int s2, .int s1, .ref 5] (hi, sk_hr rr, sk_ks ++ ex) := by
  refine go_callV (μ := m_X5_put) (n := 52) (T := TX5) (N := 1) [.int s1, .int s2, .int s3, .int s4] dX8_scale_49 ok_X5_put ml_X8_141 wx_X5_put wl_X5_put (show _ = some (0, 4) from rfl) rfl rfl (Nat.le_of_ble_eq_true rfl) ⟨Nat.le_of_ble_eq_true rfl, Nat.le_of_ble_eq_true rfl⟩ ⟨Nat.le_of_ble_eq_true rfl, Nat.le_of_ble_eq_true rfl⟩ rfl ?_
  exact l1
theorem k_X8_scale_52 {x1 x2 x3 : Int32} {hi : Nat → Nat → Int32}
    (l1 : sk_Go Γ (sk_M Γ m_X8_scale Q) (0, 0) 67 [some (.ref 0), some (.int x1), some (.int x2), some (.int x3)] [] (hi, sk_hr rr, sk_ks ++ ex)) :
    sk_Go Γ (sk_M Γ m_X8_scale Q) (0, 0) 52 [some (.ref 0), some (.int x1), some (.int x2), some (.int x3)] [] (hi, sk_hr rr, sk_ks ++ ex) := by
  refine go_goto (tgt := 67) dX8_scale_52 (by decide) ?_
  exact l1
theorem k_X8_scale_67 {x1 x2 x3 : Int32} {hi : Nat → Nat → Int32}
    (l1 : Q (some (.int 1)) (hi, sk_hr rr, sk_ks ++ ex)) :
    sk_Go Γ (sk_M Γ m_X8_scale Q) (0, 0) 67 [some (.ref 0), some (.int x1), some (.int x2), some (.int x3)] [] (hi, sk_hr rr, sk_ks ++ ex) := by
  refine go_iconst dX8_scale_67 (v := 1) (by decide) ?_
  exact go_zret (μ := m_X8_scale) dX8_scale_68 rfl rfl (Nat.le_of_ble_eq_true rfl) (Nat.le_of_ble_eq_true rfl) l1
theorem k_X8_miss_0 {x1 x2 : Int32} {hi : Nat → Nat → Int32}
    (l1 : sk_Ct Γ m_X8_isDay [.int x1, .int x2] (hi, sk_hr rr, sk_ks ++ ex) (fun r h' => sk_Go Γ (sk_M Γ m_X8_miss Q) (0, 0) 5 [some (.ref 0), some (.int x1), some (.int x2)] (r.toList ++ []) h')) :
    sk_Go Γ (sk_M Γ m_X8_miss Q) (0, 0) 0 [some (.ref 0), some (.int x1), some (.int x2)] [] (hi, sk_hr rr, sk_ks ++ ex) := by
  refine go_iload_n dX8_miss_0 rfl ?_
  refine go_iload_n dX8_miss_1 rfl ?_
  refine go_callS (μ := m_X8_isDay) (n := 5) [.int x1, .int x2] dX8_miss_2 ok_X8_isDay ml_X8_131 wx_X8_isDay rfl (Nat.le_of_ble_eq_true rfl) ⟨Nat.le_of_ble_eq_true rfl, Nat.le_of_ble_eq_true rfl⟩ ⟨Nat.le_of_ble_eq_true rfl, Nat.le_of_ble_eq_true rfl⟩ rfl ?_
  exact l1
theorem k_X8_miss_5 {x1 x2 s0 : Int32} {hi : Nat → Nat → Int32}
    (l1 : ¬ s0 = (0 : Int32) → sk_Ct Γ m_X5_drop [.ref 5, .int x1, .int x2] (hi, sk_hr rr, sk_ks ++ ex) (fun r h' => sk_Go Γ (sk_M Γ m_X8_miss Q) (0, 0) 22 [some (.ref 0), some (.int x1), some (.int x2)] (r.toList ++ []) h'))
    (l2 : s0 = (0 : Int32) → Q (some (.int 0)) (hi, sk_hr rr, sk_ks ++ ex)) :
    sk_Go Γ (sk_M Γ m_X8_miss Q) (0, 0) 5 [some (.ref 0), some (.int x1), some (.int x2)] [.int s0] (hi, sk_hr rr, sk_ks ++ ex) := by
  refine go_if_ne (tgt := 10) dX8_miss_5 (by decide) (fun c1 => ?_) (fun c1 => ?_)
  · refine go_aload_n dX8_miss_10 rfl ?_
    refine go_getR dX8_miss_11 fl_X8_10 rfl rfl (show _ = some 1 from rfl) ?_
    refine go_getR dX8_miss_14 fl_X8_137 rfl rfl (show _ = some 5 from rfl) ?_
    refine go_iload_n dX8_miss_17 rfl ?_
    refine go_iload_n dX8_miss_18 rfl ?_
    refine go_callV (μ := m_X5_drop) (n := 22) (T := TX5) (N := 1) [.int x1, .int x2] dX8_miss_19 ok_X5_drop ml_X8_146 wx_X5_drop wl_X5_drop (show _ = some (0, 4) from rfl) rfl rfl (Nat.le_of_ble_eq_true rfl) ⟨Nat.le_of_ble_eq_true rfl, Nat.le_of_ble_eq_true rfl⟩ ⟨Nat.le_of_ble_eq_true rfl, Nat.le_of_ble_eq_true rfl⟩ rfl ?_
    exact (l1 c1)
  · refine go_iconst dX8_miss_8 (v := 0) (by decide) ?_
    exact go_zret (μ := m_X8_miss) dX8_miss_9 rfl rfl (Nat.le_of_ble_eq_true rfl) (Nat.le_of_ble_eq_true rfl) (l2 c1)
theorem k_X8_miss_22 {x1 x2 : Int32} {hi : Nat → Nat → Int32}
    (l1 : Q (some (.int 1)) (hi, sk_hr rr, sk_ks ++ ex)) :
    sk_Go Γ (sk_M Γ m_X8_miss Q) (0, 0) 22 [some (.ref 0), some (.int x1), some (.int x2)] [] (hi, sk_hr rr, sk_ks ++ ex) := by
  refine go_iconst dX8_miss_22 (v := 1) (by decide) ?_
  exact go_zret (μ := m_X8_miss) dX8_miss_23 rfl rfl (Nat.le_of_ble_eq_true rfl) (Nat.le_of_ble_eq_true rfl) l1
theorem k_X8_table_0 {x1 x2 x3 : Int32} {hi : Nat → Nat → Int32}
    (l1 : sk_Ct Γ m_X8_isDay [.int x1, .int x2] (hi, sk_hr rr, sk_ks ++ ex) (fun r h' => sk_Go Γ (sk_M Γ m_X8_table Q) (0, 0) 5 [some (.ref 0), some (.int x1), some (.int x2), some (.int x3)] (r.toList ++ []) h')) :
    sk_Go Γ (sk_M Γ m_X8_table Q) (0, 0) 0 [some (.ref 0), some (.int x1), some (.int x2), some (.int x3)] [] (hi, sk_hr rr, sk_ks ++ ex) := by
  refine go_iload_n dX8_table_0 rfl ?_
  refine go_iload_n dX8_table_1 rfl ?_
  refine go_callS (μ := m_X8_isDay) (n := 5) [.int x1, .int x2] dX8_table_2 ok_X8_isDay ml_X8_131 wx_X8_isDay rfl (Nat.le_of_ble_eq_true rfl) ⟨Nat.le_of_ble_eq_true rfl, Nat.le_of_ble_eq_true rfl⟩ ⟨Nat.le_of_ble_eq_true rfl, Nat.le_of_ble_eq_true rfl⟩ rfl ?_
  exact l1
theorem k_X8_table_5 {x1 x2 x3 s0 : Int32} {hi : Nat → Nat → Int32}
    (l1 : s0 = (0 : Int32) → Q (some (.int (-1))) (hi, sk_hr rr, sk_ks ++ ex))
    (l2 : ¬ s0 = (0 : Int32) → sk_Ct Γ m_X5_isMissing [.ref 5, .int x1, .int x2] (hi, sk_hr rr, sk_ks ++ ex) (fun r h' => sk_Go Γ (sk_M Γ m_X8_table Q) (0, 0) 20 [some (.ref 0), some (.int x1), some (.int x2), some (.int x3)] (r.toList ++ []) h')) :
    sk_Go Γ (sk_M Γ m_X8_table Q) (0, 0) 5 [some (.ref 0), some (.int x1), some (.int x2), some (.int x3)] [.int s0] (hi, sk_hr rr, sk_ks ++ ex) := by
  refine go_if_eq (tgt := 23) dX8_table_5 (by decide) (fun c1 => ?_) (fun c1 => ?_)
  · refine go_iconst dX8_table_23 (v := (-1)) (by decide) ?_
    exact go_iret (μ := m_X8_table) dX8_table_24 rfl (Nat.le_of_ble_eq_true rfl) (Nat.le_of_ble_eq_true rfl) (l1 c1)
  · refine go_aload_n dX8_table_8 rfl ?_
    refine go_getR dX8_table_9 fl_X8_10 rfl rfl (show _ = some 1 from rfl) ?_
    refine go_getR dX8_table_12 fl_X8_137 rfl rfl (show _ = some 5 from rfl) ?_
    refine go_iload_n dX8_table_15 rfl ?_
    refine go_iload_n dX8_table_16 rfl ?_
    refine go_callV (μ := m_X5_isMissing) (n := 20) (T := TX5) (N := 1) [.int x1, .int x2] dX8_table_17 ok_X5_isMissing ml_X8_149 wx_X5_isMissing wl_X5_isMissing (show _ = some (0, 4) from rfl) rfl rfl (Nat.le_of_ble_eq_true rfl) ⟨Nat.le_of_ble_eq_true rfl, Nat.le_of_ble_eq_true rfl⟩ ⟨Nat.le_of_ble_eq_true rfl, Nat.le_of_ble_eq_true rfl⟩ rfl ?_
    exact (l2 c1)
theorem k_X8_table_20 {x1 x2 x3 s0 : Int32} {hi : Nat → Nat → Int32}
    (l1 : s0 = (0 : Int32) → x3 = 0 → sk_Ct Γ m_X5_valueAt [.ref 5, .int x1, .int x2] (hi, sk_hr rr, sk_ks ++ ex) (fun r h' => sk_Go Γ (sk_M Γ m_X8_table Q) (0, 0) 64 [some (.ref 0), some (.int x1), some (.int x2), some (.int x3)] (r.toList ++ []) h'))
    (l2 : s0 = (0 : Int32) → ¬ x3 = 0 → x3 = 1 → sk_Ct Γ m_X5_letterAt [.ref 5, .int x1, .int x2] (hi, sk_hr rr, sk_ks ++ ex) (fun r h' => sk_Go Γ (sk_M Γ m_X8_table Q) (0, 0) 77 [some (.ref 0), some (.int x1), some (.int x2), some (.int x3)] (r.toList ++ []) h'))
    (l3 : s0 = (0 : Int32) → ¬ x3 = 0 → ¬ x3 = 1 → Q (some (.int (-1))) (hi, sk_hr rr, sk_ks ++ ex))
    (l4 : ¬ s0 = (0 : Int32) → Q (some (.int (-1))) (hi, sk_hr rr, sk_ks ++ ex)) :
    sk_Go Γ (sk_M Γ m_X8_table Q) (0, 0) 20 [some (.ref 0), some (.int x1), some (.int x2), some (.int x3)] [.int s0] (hi, sk_hr rr, sk_ks ++ ex) := by
  refine go_if_eq (tgt := 25) dX8_table_20 (by decide) (fun c1 => ?_) (fun c1 => ?_)
  · refine go_iload_n dX8_table_25 rfl ?_
    by_cases c2 : x3 = 0
    · refine go_look (tgt := 52) (off := 26) dX8_table_26 (by decide) (by rw [c2]; rfl) (by decide) ?_
      refine go_aload_n dX8_table_52 rfl ?_
      refine go_getR dX8_table_53 fl_X8_10 rfl rfl (show _ = some 1 from rfl) ?_
      refine go_getR dX8_table_56 fl_X8_137 rfl rfl (show _ = some 5 from rfl) ?_
      refine go_iload_n dX8_table_59 rfl ?_
      refine go_iload_n dX8_table_60 rfl ?_
      refine go_callV (μ := m_X5_valueAt) (n := 64) (T := TX5) (N := 1) [.int x1, .int x2] dX8_table_61 ok_X5_valueAt ml_X8_152 wx_X5_valueAt wl_X5_valueAt (show _ = some (0, 4) from rfl) rfl rfl (Nat.le_of_ble_eq_true rfl) ⟨Nat.le_of_ble_eq_true rfl, Nat.le_of_ble_eq_true rfl⟩ ⟨Nat.le_of_ble_eq_true rfl, Nat.le_of_ble_eq_true rfl⟩ rfl ?_
      exact (l1 c1 c2)
    · skip
      by_cases c3 : x3 = 1
      · refine go_look (tgt := 65) (off := 39) dX8_table_26 (by decide) (by rw [c3]; rfl) (by decide) ?_
        refine go_aload_n dX8_table_65 rfl ?_
        refine go_getR dX8_table_66 fl_X8_10 rfl rfl (show _ = some 1 from rfl) ?_
        refine go_getR dX8_table_69 fl_X8_137 rfl rfl (show _ = some 5 from rfl) ?_
        refine go_iload_n dX8_table_72 rfl ?_
        refine go_iload_n dX8_table_73 rfl ?_
        refine go_callV (μ := m_X5_letterAt) (n := 77) (T := TX5) (N := 1) [.int x1, .int x2] dX8_table_74 ok_X5_letterAt ml_X8_156 wx_X5_letterAt wl_X5_letterAt (show _ = some (0, 4) from rfl) rfl rfl (Nat.le_of_ble_eq_true rfl) ⟨Nat.le_of_ble_eq_true rfl, Nat.le_of_ble_eq_true rfl⟩ ⟨Nat.le_of_ble_eq_true rfl, Nat.le_of_ble_eq_true rfl⟩ rfl ?_
        exact (l2 c1 c2 c3)
      · skip
        refine go_look (tgt := 78) (off := 52) dX8_table_26 (by decide) (by
          show Op.lookupswitch.offset [(0, 26), (1, 39)] 52 (Int32.toInt x3) = 52
          rw [lv_osw c2 (by decide)]
          rw [lv_osw c3 (by decide)]
          rfl) (by decide) ?_
        refine go_iconst dX8_table_78 (v := (-1)) (by decide) ?_
        exact go_iret (μ := m_X8_table) dX8_table_79 rfl (Nat.le_of_ble_eq_true rfl) (Nat.le_of_ble_eq_true rfl) (l3 c1 c2 c3)
  · refine go_iconst dX8_table_23 (v := (-1)) (by decide) ?_
    exact go_iret (μ := m_X8_table) dX8_table_24 rfl (Nat.le_of_ble_eq_true rfl) (Nat.le_of_ble_eq_true rfl) (l4 c1)
theorem k_X8_table_64 {x1 x2 x3 s0 : Int32} {hi : Nat → Nat → Int32}
    (l1 : Q (some (.int s0)) (hi, sk_hr rr, sk_ks ++ ex)) :
    sk_Go Γ (sk_M Γ m_X8_table Q) (0, 0) 64 [some (.ref 0), some (.int x1), some (.int x2), some (.int x3)] [.int s0] (hi, sk_hr rr, sk_ks ++ ex) := by
  exact go_iret (μ := m_X8_table) dX8_table_64 rfl (Nat.le_of_ble_eq_true rfl) (Nat.le_of_ble_eq_true rfl) l1
theorem k_X8_table_77 {x1 x2 x3 s0 : Int32} {hi : Nat → Nat → Int32}
    (l1 : Q (some (.int s0)) (hi, sk_hr rr, sk_ks ++ ex)) :
    sk_Go Γ (sk_M Γ m_X8_table Q) (0, 0) 77 [some (.ref 0), some (.int x1), some (.int x2), some (.int x3)] [.int s0] (hi, sk_hr rr, sk_ks ++ ex) := by
  exact go_iret (μ := m_X8_table) dX8_table_77 rfl (Nat.le_of_ble_eq_true rfl) (Nat.le_of_ble_eq_true rfl) l1
theorem k_X8_middle_0 {x1 x2 : Int32} {hi : Nat → Nat → Int32}
    (l1 : sk_Ct Γ m_X8_within [.int x1, .int 0, .int 23] (hi, sk_hr rr, sk_ks ++ ex) (fun r h' => sk_Go Γ (sk_M Γ m_X8_middle Q) (0, 0) 7 [some (.ref 0), some (.int x1), some (.int x2)] (r.toList ++ []) h')) :
    sk_Go Γ (sk_M Γ m_X8_middle Q) (0, 0) 0 [some (.ref 0), some (.int x1), some (.int x2)] [] (hi, sk_hr rr, sk_ks ++ ex) := by
  refine go_iload_n dX8_middle_0 rfl ?_
  refine go_iconst dX8_middle_1 (v := 0) (by decide) ?_
  refine go_bipush dX8_middle_2 (v := 23) (by decide) ?_
  refine go_callS (μ := m_X8_within) (n := 7) [.int x1, .int 0, .int 23] dX8_middle_4 ok_X8_within ml_X8_49 wx_X8_within rfl (Nat.le_of_ble_eq_true rfl) ⟨Nat.le_of_ble_eq_true rfl, Nat.le_of_ble_eq_true rfl⟩ ⟨Nat.le_of_ble_eq_true rfl, Nat.le_of_ble_eq_true rfl⟩ rfl ?_
  exact l1
theorem k_X8_middle_7 {x1 x2 s0 : Int32} {hi : Nat → Nat → Int32}
    (l1 : ¬ s0 = (0 : Int32) → (Int32.toInt x2 < 0 ∨ 2 < Int32.toInt x2) → Q (some (.int (-2))) (hi, sk_hr rr, sk_ks ++ ex))
    (l2 : ¬ s0 = (0 : Int32) → x2 = 0 → sk_Ct Γ m_X2_find [.ref 18, .ref 5, .int x1, .int 2, .int (-1)] (hi, sk_hr rr, sk_ks ++ ex) (fun r h' => sk_Go Γ (sk_M Γ m_X8_middle Q) (0, 0) 57 [some (.ref 0), some (.int x1), some (.int x2)] (r.toList ++ []) h'))
    (l3 : ¬ s0 = (0 : Int32) → x2 = 1 → sk_Ct Γ m_X2_find [.ref 18, .ref 5, .int x1, .int 1, .int 1000] (hi, sk_hr rr, sk_ks ++ ex) (fun r h' => sk_Go Γ (sk_M Γ m_X8_middle Q) (0, 0) 77 [some (.ref 0), some (.int x1), some (.int x2)] (r.toList ++ []) h'))
    (l4 : ¬ s0 = (0 : Int32) → x2 = 2 → sk_Ct Γ m_X5_presentIn [.ref 5, .int x1] (hi, sk_hr rr, sk_ks ++ ex) (fun r h' => sk_Go Γ (sk_M Γ m_X8_middle Q) (0, 0) 89 [some (.ref 0), some (.int x1), some (.int x2)] (r.toList ++ []) h'))
    (l5 : s0 = (0 : Int32) → Q (some (.int (-2))) (hi, sk_hr rr, sk_ks ++ ex)) :
    sk_Go Γ (sk_M Γ m_X8_middle Q) (0, 0) 7 [some (.ref 0), some (.int x1), some (.int x2)] [.int s0] (hi, sk_hr rr, sk_ks ++ ex) := by
  refine go_if_ne (tgt := 13) dX8_middle_7 (by decide) (fun c1 => ?_) (fun c1 => ?_)
  · refine go_iload_n dX8_middle_13 rfl ?_
    by_cases c2 : (Int32.toInt x2 < 0 ∨ 2 < Int32.toInt x2)
    · refine go_tout (tgt := 90) dX8_middle_14 c2 (by decide) ?_
      refine go_bipush dX8_middle_90 (v := (-2)) (by decide) ?_
      exact go_iret (μ := m_X8_middle) dX8_middle_92 rfl (Nat.le_of_ble_eq_true rfl) (Nat.le_of_ble_eq_true rfl) (l1 c1 c2)
    · have hlo : ¬ Int32.toInt x2 < 0 := fun q => c2 (Or.inl q)
      have hhi : ¬ 2 < Int32.toInt x2 := fun q => c2 (Or.inr q)
      by_cases hc0 : Int32.toInt x2 = 0
      · have c2 : x2 = 0 := Int32.toInt_inj.mp hc0
        refine go_tin (tgt := 40) (off := 26) dX8_middle_14 hlo hhi (by rw [hc0]; rfl) (by decide) ?_
        refine go_aload_n dX8_middle_40 rfl ?_
        refine go_getR dX8_middle_41 fl_X8_37 rfl rfl (show _ = some 18 from rfl) ?_
        refine go_aload_n dX8_middle_44 rfl ?_
        refine go_getR dX8_middle_45 fl_X8_10 rfl rfl (show _ = some 1 from rfl) ?_
        refine go_getR dX8_middle_48 fl_X8_137 rfl rfl (show _ = some 5 from rfl) ?_
        refine go_iload_n dX8_middle_51 rfl ?_
        refine go_iconst dX8_middle_52 (v := 2) (by decide) ?_
        refine go_iconst dX8_middle_53 (v := (-1)) (by decide) ?_
        refine go_callV (μ := m_X2_find) (n := 57) (T := TX2) (N := 1) [.ref 5, .int x1, .int 2, .int (-1)] dX8_middle_54 ok_X2_find ml_X8_159 wx_X2_find wl_X2_find (show _ = some (0, 1) from rfl) rfl rfl (Nat.le_of_ble_eq_true rfl) ⟨Nat.le_of_ble_eq_true rfl, Nat.le_of_ble_eq_true rfl⟩ ⟨Nat.le_of_ble_eq_true rfl, Nat.le_of_ble_eq_true rfl⟩ rfl ?_
        exact (l2 c1 c2)
      · skip
        by_cases hc1 : Int32.toInt x2 = 1
        · have c2 : x2 = 1 := Int32.toInt_inj.mp hc1
          refine go_tin (tgt := 58) (off := 44) dX8_middle_14 hlo hhi (by rw [hc1]; rfl) (by decide) ?_
          refine go_aload_n dX8_middle_58 rfl ?_
          refine go_getR dX8_middle_59 fl_X8_37 rfl rfl (show _ = some 18 from rfl) ?_
          refine go_aload_n dX8_middle_62 rfl ?_
          refine go_getR dX8_middle_63 fl_X8_10 rfl rfl (show _ = some 1 from rfl) ?_
          refine go_getR dX8_middle_66 fl_X8_137 rfl rfl (show _ = some 5 from rfl) ?_
          refine go_iload_n dX8_middle_69 rfl ?_
          refine go_iconst dX8_middle_70 (v := 1) (by decide) ?_
          refine go_sipush dX8_middle_71 (v := 1000) (by decide) ?_
          refine go_callV (μ := m_X2_find) (n := 77) (T := TX2) (N := 1) [.ref 5, .int x1, .int 1, .int 1000] dX8_middle_74 ok_X2_find ml_X8_159 wx_X2_find wl_X2_find (show _ = some (0, 1) from rfl) rfl rfl (Nat.le_of_ble_eq_true rfl) ⟨Nat.le_of_ble_eq_true rfl, Nat.le_of_ble_eq_true rfl⟩ ⟨Nat.le_of_ble_eq_true rfl, Nat.le_of_ble_eq_true rfl⟩ rfl ?_
          exact (l3 c1 c2)
        · skip
          have hc2 : Int32.toInt x2 = 2 := by omega
          have c2 : x2 = 2 := Int32.toInt_inj.mp hc2
          refine go_tin (tgt := 78) (off := 64) dX8_middle_14 hlo hhi (by rw [hc2]; rfl) (by decide) ?_
          refine go_aload_n dX8_middle_78 rfl ?_
          refine go_getR dX8_middle_79 fl_X8_10 rfl rfl (show _ = some 1 from rfl) ?_
          refine go_getR dX8_middle_82 fl_X8_137 rfl rfl (show _ = some 5 from rfl) ?_
          refine go_iload_n dX8_middle_85 rfl ?_
          refine go_callV (μ := m_X5_presentIn) (n := 89) (T := TX5) (N := 1) [.int x1] dX8_middle_86 ok_X5_presentIn ml_X8_163 wx_X5_presentIn wl_X5_presentIn (show _ = some (0, 4) from rfl) rfl rfl (Nat.le_of_ble_eq_true rfl) ⟨Nat.le_of_ble_eq_true rfl, Nat.le_of_ble_eq_true rfl⟩ ⟨Nat.le_of_ble_eq_true rfl, Nat.le_of_ble_eq_true rfl⟩ rfl ?_
          exact (l4 c1 c2)
  · refine go_bipush dX8_middle_10 (v := (-2)) (by decide) ?_
    exact go_iret (μ := m_X8_middle) dX8_middle_12 rfl (Nat.le_of_ble_eq_true rfl) (Nat.le_of_ble_eq_true rfl) (l5 c1)
theorem k_X8_middle_57 {x1 x2 s0 : Int32} {hi : Nat → Nat → Int32}
    (l1 : Q (some (.int s0)) (hi, sk_hr rr, sk_ks ++ ex)) :
    sk_Go Γ (sk_M Γ m_X8_middle Q) (0, 0) 57 [some (.ref 0), some (.int x1), some (.int x2)] [.int s0] (hi, sk_hr rr, sk_ks ++ ex) := by
  exact go_iret (μ := m_X8_middle) dX8_middle_57 rfl (Nat.le_of_ble_eq_true rfl) (Nat.le_of_ble_eq_true rfl) l1
theorem k_X8_middle_77 {x1 x2 s0 : Int32} {hi : Nat → Nat → Int32}
    (l1 : Q (some (.int s0)) (hi, sk_hr rr, sk_ks ++ ex)) :
    sk_Go Γ (sk_M Γ m_X8_middle Q) (0, 0) 77 [some (.ref 0), some (.int x1), some (.int x2)] [.int s0] (hi, sk_hr rr, sk_ks ++ ex) := by
  exact go_iret (μ := m_X8_middle) dX8_middle_77 rfl (Nat.le_of_ble_eq_true rfl) (Nat.le_of_ble_eq_true rfl) l1
theorem k_X8_middle_89 {x1 x2 s0 : Int32} {hi : Nat → Nat → Int32}
    (l1 : Q (some (.int s0)) (hi, sk_hr rr, sk_ks ++ ex)) :
    sk_Go Γ (sk_M Γ m_X8_middle Q) (0, 0) 89 [some (.ref 0), some (.int x1), some (.int x2)] [.int s0] (hi, sk_hr rr, sk_ks ++ ex) := by
  exact go_iret (μ := m_X8_middle) dX8_middle_89 rfl (Nat.le_of_ble_eq_true rfl) (Nat.le_of_ble_eq_true rfl) l1
theorem k_X8_hops_0 {x1 x2 x3 x4 : Int32} {hi : Nat → Nat → Int32}
    (l1 : sk_Ct Γ m_X8_within [.int x1, .int 1, .int 20000] (hi, sk_hr rr, sk_ks ++ ex) (fun r h' => sk_Go Γ (sk_M Γ m_X8_hops Q) (0, 0) 8 [some (.ref 0), some (.int x1), some (.int x2), some (.int x3), some (.int x4)] (r.toList ++ []) h')) :
    sk_Go Γ (sk_M Γ m_X8_hops Q) (0, 0) 0 [some (.ref 0), some (.int x1), some (.int x2), some (.int x3), some (.int x4)] [] (hi, sk_hr rr, sk_ks ++ ex) := by
  refine go_iload_n dX8_hops_0 rfl ?_
  refine go_iconst dX8_hops_1 (v := 1) (by decide) ?_
  refine go_sipush dX8_hops_2 (v := 20000) (by decide) ?_
  refine go_callS (μ := m_X8_within) (n := 8) [.int x1, .int 1, .int 20000] dX8_hops_5 ok_X8_within ml_X8_49 wx_X8_within rfl (Nat.le_of_ble_eq_true rfl) ⟨Nat.le_of_ble_eq_true rfl, Nat.le_of_ble_eq_true rfl⟩ ⟨Nat.le_of_ble_eq_true rfl, Nat.le_of_ble_eq_true rfl⟩ rfl ?_
  exact l1
theorem k_X8_hops_8 {x1 x2 x3 x4 s0 : Int32} {hi : Nat → Nat → Int32}
    (l1 : s0 = (0 : Int32) → Q (some (.int (-1))) (hi, sk_hr rr, sk_ks ++ ex))
    (l2 : ¬ s0 = (0 : Int32) → sk_Ct Γ m_X8_within [.int x2, .int 1, .int 1000] (hi, sk_hr rr, sk_ks ++ ex) (fun r h' => sk_Go Γ (sk_M Γ m_X8_hops Q) (0, 0) 19 [some (.ref 0), some (.int x1), some (.int x2), some (.int x3), some (.int x4)] (r.toList ++ []) h')) :
    sk_Go Γ (sk_M Γ m_X8_hops Q) (0, 0) 8 [some (.ref 0), some (.int x1), some (.int x2), some (.int x3), some (.int x4)] [.int s0] (hi, sk_hr rr, sk_ks ++ ex) := by
  refine go_if_eq (tgt := 43) dX8_hops_8 (by decide) (fun c1 => ?_) (fun c1 => ?_)
  · refine go_iconst dX8_hops_43 (v := (-1)) (by decide) ?_
    exact go_iret (μ := m_X8_hops) dX8_hops_44 rfl (Nat.le_of_ble_eq_true rfl) (Nat.le_of_ble_eq_true rfl) (l1 c1)
  · refine go_iload_n dX8_hops_11 rfl ?_
    refine go_iconst dX8_hops_12 (v := 1) (by decide) ?_
    refine go_sipush dX8_hops_13 (v := 1000) (by decide) ?_
    refine go_callS (μ := m_X8_within) (n := 19) [.int x2, .int 1, .int 1000] dX8_hops_16 ok_X8_within ml_X8_49 wx_X8_within rfl (Nat.le_of_ble_eq_true rfl) ⟨Nat.le_of_ble_eq_true rfl, Nat.le_of_ble_eq_true rfl⟩ ⟨Nat.le_of_ble_eq_true rfl, Nat.le_of_ble_eq_true rfl⟩ rfl ?_
    exact (l2 c1)
theorem k_X8_hops_19 {x1 x2 x3 x4 s0 : Int32} {hi : Nat → Nat → Int32}
    (l1 : s0 = (0 : Int32) → Q (some (.int (-1))) (hi, sk_hr rr, sk_ks ++ ex))
    (l2 : ¬ s0 = (0 : Int32) → sk_Ct Γ m_X8_within [.int x3, .int 1, .int 1000] (hi, sk_hr rr, sk_ks ++ ex) (fun r h' => sk_Go Γ (sk_M Γ m_X8_hops Q) (0, 0) 30 [some (.ref 0), some (.int x1), some (.int x2), some (.int x3), some (.int x4)] (r.toList ++ []) h')) :
    sk_Go Γ (sk_M Γ m_X8_hops Q) (0, 0) 19 [some (.ref 0), some (.int x1), some (.int x2), some (.int x3), some (.int x4)] [.int s0] (hi, sk_hr rr, sk_ks ++ ex) := by
  refine go_if_eq (tgt := 43) dX8_hops_19 (by decide) (fun c1 => ?_) (fun c1 => ?_)
  · refine go_iconst dX8_hops_43 (v := (-1)) (by decide) ?_
    exact go_iret (μ := m_X8_hops) dX8_hops_44 rfl (Nat.le_of_ble_eq_true rfl) (Nat.le_of_ble_eq_true rfl) (l1 c1)
  · refine go_iload_n dX8_hops_22 rfl ?_
    refine go_iconst dX8_hops_23 (v := 1) (by decide) ?_
    refine go_sipush dX8_hops_24 (v := 1000) (by decide) ?_
    refine go_callS (μ := m_X8_within) (n := 30) [.int x3, .int 1, .int 1000] dX8_hops_27 ok_X8_within ml_X8_49 wx_X8_within rfl (Nat.le_of_ble_eq_true rfl) ⟨Nat.le_of_ble_eq_true rfl, Nat.le_of_ble_eq_true rfl⟩ ⟨Nat.le_of_ble_eq_true rfl, Nat.le_of_ble_eq_true rfl⟩ rfl ?_
    exact (l2 c1)
theorem k_X8_hops_30 {x1 x2 x3 x4 s0 : Int32} {hi : Nat → Nat → Int32}
    (l1 : s0 = (0 : Int32) → Q (some (.int (-1))) (hi, sk_hr rr, sk_ks ++ ex))
    (l2 : ¬ s0 = (0 : Int32) → sk_Ct Γ m_X8_within [.int x4, .int 1, .int 5] (hi, sk_hr rr, sk_ks ++ ex) (fun r h' => sk_Go Γ (sk_M Γ m_X8_hops Q) (0, 0) 40 [some (.ref 0), some (.int x1), some (.int x2), some (.int x3), some (.int x4)] (r.toList ++ []) h')) :
    sk_Go Γ (sk_M Γ m_X8_hops Q) (0, 0) 30 [some (.ref 0), some (.int x1), some (.int x2), some (.int x3), some (.int x4)] [.int s0] (hi, sk_hr rr, sk_ks ++ ex) := by
  refine go_if_eq (tgt := 43) dX8_hops_30 (by decide) (fun c1 => ?_) (fun c1 => ?_)
  · refine go_iconst dX8_hops_43 (v := (-1)) (by decide) ?_
    exact go_iret (μ := m_X8_hops) dX8_hops_44 rfl (Nat.le_of_ble_eq_true rfl) (Nat.le_of_ble_eq_true rfl) (l1 c1)
  · refine go_iload dX8_hops_33 rfl ?_
    refine go_iconst dX8_hops_35 (v := 1) (by decide) ?_
    refine go_iconst dX8_hops_36 (v := 5) (by decide) ?_
    refine go_callS (μ := m_X8_within) (n := 40) [.int x4, .int 1, .int 5] dX8_hops_37 ok_X8_within ml_X8_49 wx_X8_within rfl (Nat.le_of_ble_eq_true rfl) ⟨Nat.le_of_ble_eq_true rfl, Nat.le_of_ble_eq_true rfl⟩ ⟨Nat.le_of_ble_eq_true rfl, Nat.le_of_ble_eq_true rfl⟩ rfl ?_
    exact (l2 c1)
theorem k_X8_hops_40 {x1 x2 x3 x4 s0 : Int32} {hi : Nat → Nat → Int32}
    (l1 : ¬ s0 = (0 : Int32) → sk_Ct Γ m_X1_highestTone [.int x1, .int x2, .int x3, .int x4] (hi, sk_hr rr, sk_ks ++ ex) (fun r h' => sk_Go Γ (sk_M Γ m_X8_hops Q) (0, 0) 53 [some (.ref 0), some (.int x1), some (.int x2), some (.int x3), some (.int x4)] (r.toList ++ []) h'))
    (l2 : s0 = (0 : Int32) → Q (some (.int (-1))) (hi, sk_hr rr, sk_ks ++ ex)) :
    sk_Go Γ (sk_M Γ m_X8_hops Q) (0, 0) 40 [some (.ref 0), some (.int x1), some (.int x2), some (.int x3), some (.int x4)] [.int s0] (hi, sk_hr rr, sk_ks ++ ex) := by
  refine go_if_ne (tgt := 45) dX8_hops_40 (by decide) (fun c1 => ?_) (fun c1 => ?_)
  · refine go_iload_n dX8_hops_45 rfl ?_
    refine go_iload_n dX8_hops_46 rfl ?_
    refine go_iload_n dX8_hops_47 rfl ?_
    refine go_iload dX8_hops_48 rfl ?_
    refine go_callS (μ := m_X1_highestTone) (n := 53) [.int x1, .int x2, .int x3, .int x4] dX8_hops_50 ok_X1_highestTone ml_X8_166 wx_X1_highestTone rfl (Nat.le_of_ble_eq_true rfl) ⟨Nat.le_of_ble_eq_true rfl, Nat.le_of_ble_eq_true rfl⟩ ⟨Nat.le_of_ble_eq_true rfl, Nat.le_of_ble_eq_true rfl⟩ rfl ?_
    exact (l1 c1)
  · refine go_iconst dX8_hops_43 (v := (-1)) (by decide) ?_
    exact go_iret (μ := m_X8_hops) dX8_hops_44 rfl (Nat.le_of_ble_eq_true rfl) (Nat.le_of_ble_eq_true rfl) (l2 c1)
theorem k_X8_hops_53 {x1 x2 x3 x4 s0 : Int32} {hi : Nat → Nat → Int32}
    (l1 : Q (some (.int s0)) (hi, sk_hr rr, sk_ks ++ ex)) :
    sk_Go Γ (sk_M Γ m_X8_hops Q) (0, 0) 53 [some (.ref 0), some (.int x1), some (.int x2), some (.int x3), some (.int x4)] [.int s0] (hi, sk_hr rr, sk_ks ++ ex) := by
  exact go_iret (μ := m_X8_hops) dX8_hops_53 rfl (Nat.le_of_ble_eq_true rfl) (Nat.le_of_ble_eq_true rfl) l1
theorem k_X8_fewest_0 {x1 x2 : Int32} {hi : Nat → Nat → Int32}
    (l1 : sk_Ct Γ m_X8_within [.int x1, .int 1, .int 20000] (hi, sk_hr rr, sk_ks ++ ex) (fun r h' => sk_Go Γ (sk_M Γ m_X8_fewest Q) (0, 0) 8 [some (.ref 0), some (.int x1), some (.int x2)] (r.toList ++ []) h')) :
    sk_Go Γ (sk_M Γ m_X8_fewest Q) (0, 0) 0 [some (.ref 0), some (.int x1), some (.int x2)] [] (hi, sk_hr rr, sk_ks ++ ex) := by
  refine go_iload_n dX8_fewest_0 rfl ?_
  refine go_iconst dX8_fewest_1 (v := 1) (by decide) ?_
  refine go_sipush dX8_fewest_2 (v := 20000) (by decide) ?_
  refine go_callS (μ := m_X8_within) (n := 8) [.int x1, .int 1, .int 20000] dX8_fewest_5 ok_X8_within ml_X8_49 wx_X8_within rfl (Nat.le_of_ble_eq_true rfl) ⟨Nat.le_of_ble_eq_true rfl, Nat.le_of_ble_eq_true rfl⟩ ⟨Nat.le_of_ble_eq_true rfl, Nat.le_of_ble_eq_true rfl⟩ rfl ?_
  exact l1
theorem k_X8_fewest_8 {x1 x2 s0 : Int32} {hi : Nat → Nat → Int32}
    (l1 : s0 = (0 : Int32) → Q (some (.int (-1))) (hi, sk_hr rr, sk_ks ++ ex))
    (l2 : ¬ s0 = (0 : Int32) → sk_Ct Γ m_X8_within [.int x2, .int 1, .int 20000] (hi, sk_hr rr, sk_ks ++ ex) (fun r h' => sk_Go Γ (sk_M Γ m_X8_fewest Q) (0, 0) 19 [some (.ref 0), some (.int x1), some (.int x2)] (r.toList ++ []) h')) :
    sk_Go Γ (sk_M Γ m_X8_fewest Q) (0, 0) 8 [some (.ref 0), some (.int x1), some (.int x2)] [.int s0] (hi, sk_hr rr, sk_ks ++ ex) := by
  refine go_if_eq (tgt := 22) dX8_fewest_8 (by decide) (fun c1 => ?_) (fun c1 => ?_)
  · refine go_iconst dX8_fewest_22 (v := (-1)) (by decide) ?_
    exact go_iret (μ := m_X8_fewest) dX8_fewest_23 rfl (Nat.le_of_ble_eq_true rfl) (Nat.le_of_ble_eq_true rfl) (l1 c1)
  · refine go_iload_n dX8_fewest_11 rfl ?_
    refine go_iconst dX8_fewest_12 (v := 1) (by decide) ?_
    refine go_sipush dX8_fewest_13 (v := 20000) (by decide) ?_
    refine go_callS (μ := m_X8_within) (n := 19) [.int x2, .int 1, .int 20000] dX8_fewest_16 ok_X8_within ml_X8_49 wx_X8_within rfl (Nat.le_of_ble_eq_true rfl) ⟨Nat.le_of_ble_eq_true rfl, Nat.le_of_ble_eq_true rfl⟩ ⟨Nat.le_of_ble_eq_true rfl, Nat.le_of_ble_eq_true rfl⟩ rfl ?_
    exact (l2 c1)
theorem k_X8_fewest_19 {x1 x2 s0 : Int32} {hi : Nat → Nat → Int32}
    (l1 : ¬ s0 = (0 : Int32) → sk_Ct Γ m_X1_leastHops [.int x1, .int x2] (hi, sk_hr rr, sk_ks ++ ex) (fun r h' => sk_Go Γ (sk_M Γ m_X8_fewest Q) (0, 0) 29 [some (.ref 0), some (.int x1), some (.int x2)] (r.toList ++ []) h'))
    (l2 : s0 = (0 : Int32) → Q (some (.int (-1))) (hi, sk_hr rr, sk_ks ++ ex)) :
    sk_Go Γ (sk_M Γ m_X8_fewest Q) (0, 0) 19 [some (.ref 0), some (.int x1), some (.int x2)] [.int s0] (hi, sk_hr rr, sk_ks ++ ex) := by
  refine go_if_ne (tgt := 24) dX8_fewest_19 (by decide) (fun c1 => ?_) (fun c1 => ?_)
  · refine go_iload_n dX8_fewest_24 rfl ?_
    refine go_iload_n dX8_fewest_25 rfl ?_
    refine go_callS (μ := m_X1_leastHops) (n := 29) [.int x1, .int x2] dX8_fewest_26 ok_X1_leastHops ml_X8_172 wx_X1_leastHops rfl (Nat.le_of_ble_eq_true rfl) ⟨Nat.le_of_ble_eq_true rfl, Nat.le_of_ble_eq_true rfl⟩ ⟨Nat.le_of_ble_eq_true rfl, Nat.le_of_ble_eq_true rfl⟩ rfl ?_
    exact (l1 c1)
  · refine go_iconst dX8_fewest_22 (v := (-1)) (by decide) ?_
    exact go_iret (μ := m_X8_fewest) dX8_fewest_23 rfl (Nat.le_of_ble_eq_true rfl) (Nat.le_of_ble_eq_true rfl) (l2 c1)
theorem k_X8_fewest_29 {x1 x2 s0 : Int32} {hi : Nat → Nat → Int32}
    (l1 : Q (some (.int s0)) (hi, sk_hr rr, sk_ks ++ ex)) :
    sk_Go Γ (sk_M Γ m_X8_fewest Q) (0, 0) 29 [some (.ref 0), some (.int x1), some (.int x2)] [.int s0] (hi, sk_hr rr, sk_ks ++ ex) := by
  exact go_iret (μ := m_X8_fewest) dX8_fewest_29 rfl (Nat.le_of_ble_eq_true rfl) (Nat.le_of_ble_eq_true rfl) l1
theorem k_X8_isOnMap_0 {x0 x1 : Int32} {hi : Nat → Nat → Int32}
    (l1 : sk_Ct Γ m_X8_within [.int x0, .int 0, .int 200] (hi, sk_hr rr, sk_ks ++ ex) (fun r h' => sk_Go Γ (sk_M Γ m_X8_isOnMap Q) (0, 0) 8 [some (.int x0), some (.int x1)] (r.toList ++ []) h')) :
    sk_Go Γ (sk_M Γ m_X8_isOnMap Q) (0, 0) 0 [some (.int x0), some (.int x1)] [] (hi, sk_hr rr, sk_ks ++ ex) := by
  refine go_iload_n dX8_isOnMap_0 rfl ?_
  refine go_iconst dX8_isOnMap_1 (v := 0) (by decide) ?_
  refine go_sipush dX8_isOnMap_2 (v := 200) (by decide) ?_
  refine go_callS (μ := m_X8_within) (n := 8) [.int x0, .int 0, .int 200] dX8_isOnMap_5 ok_X8_within ml_X8_49 wx_X8_within rfl (Nat.le_of_ble_eq_true rfl) ⟨Nat.le_of_ble_eq_true rfl, Nat.le_of_ble_eq_true rfl⟩ ⟨Nat.le_of_ble_eq_true rfl, Nat.le_of_ble_eq_true rfl⟩ rfl ?_
  exact l1
theorem k_X8_isOnMap_8 {x0 x1 s0 : Int32} {hi : Nat → Nat → Int32}
    (l1 : s0 = (0 : Int32) → Q (some (.int 0)) (hi, sk_hr rr, sk_ks ++ ex))
    (l2 : ¬ s0 = (0 : Int32) → sk_Ct Γ m_X8_within [.int x1, .int 0, .int 200] (hi, sk_hr rr, sk_ks ++ ex) (fun r h' => sk_Go Γ (sk_M Γ m_X8_isOnMap Q) (0, 0) 19 [some (.int x0), some (.int x1)] (r.toList ++ []) h')) :
    sk_Go Γ (sk_M Γ m_X8_isOnMap Q) (0, 0) 8 [some (.int x0), some (.int x1)] [.int s0] (hi, sk_hr rr, sk_ks ++ ex) := by
  refine go_if_eq (tgt := 26) dX8_isOnMap_8 (by decide) (fun c1 => ?_) (fun c1 => ?_)
  · refine go_iconst dX8_isOnMap_26 (v := 0) (by decide) ?_
    exact go_zret (μ := m_X8_isOnMap) dX8_isOnMap_27 rfl rfl (Nat.le_of_ble_eq_true rfl) (Nat.le_of_ble_eq_true rfl) (l1 c1)
  · refine go_iload_n dX8_isOnMap_11 rfl ?_
    refine go_iconst dX8_isOnMap_12 (v := 0) (by decide) ?_
    refine go_sipush dX8_isOnMap_13 (v := 200) (by decide) ?_
    refine go_callS (μ := m_X8_within) (n := 19) [.int x1, .int 0, .int 200] dX8_isOnMap_16 ok_X8_within ml_X8_49 wx_X8_within rfl (Nat.le_of_ble_eq_true rfl) ⟨Nat.le_of_ble_eq_true rfl, Nat.le_of_ble_eq_true rfl⟩ ⟨Nat.le_of_ble_eq_true rfl, Nat.le_of_ble_eq_true rfl⟩ rfl ?_
    exact (l2 c1)
theorem k_X8_isOnMap_19 {x0 x1 s0 : Int32} {hi : Nat → Nat → Int32}
    (l1 : s0 = (0 : Int32) → Q (some (.int 0)) (hi, sk_hr rr, sk_ks ++ ex))
    (l2 : ¬ s0 = (0 : Int32) → Q (some (.int 1)) (hi, sk_hr rr, sk_ks ++ ex)) :
    sk_Go Γ (sk_M Γ m_X8_isOnMap Q) (0, 0) 19 [some (.int x0), some (.int x1)] [.int s0] (hi, sk_hr rr, sk_ks ++ ex) := by
  refine go_if_eq (tgt := 26) dX8_isOnMap_19 (by decide) (fun c1 => ?_) (fun c1 => ?_)
  · refine go_iconst dX8_isOnMap_26 (v := 0) (by decide) ?_
    exact go_zret (μ := m_X8_isOnMap) dX8_isOnMap_27 rfl rfl (Nat.le_of_ble_eq_true rfl) (Nat.le_of_ble_eq_true rfl) (l1 c1)
  · refine go_iconst dX8_isOnMap_22 (v := 1) (by decide) ?_
    refine go_goto (tgt := 27) dX8_isOnMap_23 (by decide) ?_
    exact go_zret (μ := m_X8_isOnMap) dX8_isOnMap_27 rfl rfl (Nat.le_of_ble_eq_true rfl) (Nat.le_of_ble_eq_true rfl) (l2 c1)
theorem k_X8_station_0 {x1 x2 x3 : Int32} {hi : Nat → Nat → Int32}
    (l1 : sk_Ct Γ m_X8_isOnMap [.int x1, .int x2] (hi, sk_hr rr, sk_ks ++ ex) (fun r h' => sk_Go Γ (sk_M Γ m_X8_station Q) (0, 0) 5 [some (.ref 0), some (.int x1), some (.int x2), some (.int x3)] (r.toList ++ []) h')) :
    sk_Go Γ (sk_M Γ m_X8_station Q) (0, 0) 0 [some (.ref 0), some (.int x1), some (.int x2), some (.int x3)] [] (hi, sk_hr rr, sk_ks ++ ex) := by
  refine go_iload_n dX8_station_0 rfl ?_
  refine go_iload_n dX8_station_1 rfl ?_
  refine go_callS (μ := m_X8_isOnMap) (n := 5) [.int x1, .int x2] dX8_station_2 ok_X8_isOnMap ml_X8_175 wx_X8_isOnMap rfl (Nat.le_of_ble_eq_true rfl) ⟨Nat.le_of_ble_eq_true rfl, Nat.le_of_ble_eq_true rfl⟩ ⟨Nat.le_of_ble_eq_true rfl, Nat.le_of_ble_eq_true rfl⟩ rfl ?_
  exact l1
theorem k_X8_station_5 {x1 x2 x3 s0 : Int32} {hi : Nat → Nat → Int32}
    (l1 : s0 = (0 : Int32) → Q (some (.int (-1))) (hi, sk_hr rr, sk_ks ++ ex))
    (l2 : ¬ s0 = (0 : Int32) → sk_Ct Γ m_X8_isValue [.int x3] (hi, sk_hr rr, sk_ks ++ ex) (fun r h' => sk_Go Γ (sk_M Γ m_X8_station Q) (0, 0) 12 [some (.ref 0), some (.int x1), some (.int x2), some (.int x3)] (r.toList ++ []) h')) :
    sk_Go Γ (sk_M Γ m_X8_station Q) (0, 0) 5 [some (.ref 0), some (.int x1), some (.int x2), some (.int x3)] [.int s0] (hi, sk_hr rr, sk_ks ++ ex) := by
  refine go_if_eq (tgt := 15) dX8_station_5 (by decide) (fun c1 => ?_) (fun c1 => ?_)
  · refine go_iconst dX8_station_15 (v := (-1)) (by decide) ?_
    exact go_iret (μ := m_X8_station) dX8_station_16 rfl (Nat.le_of_ble_eq_true rfl) (Nat.le_of_ble_eq_true rfl) (l1 c1)
  · refine go_iload_n dX8_station_8 rfl ?_
    refine go_callS (μ := m_X8_isValue) (n := 12) [.int x3] dX8_station_9 ok_X8_isValue ml_X8_134 wx_X8_isValue rfl (Nat.le_of_ble_eq_true rfl) ⟨Nat.le_of_ble_eq_true rfl, Nat.le_of_ble_eq_true rfl⟩ ⟨Nat.le_of_ble_eq_true rfl, Nat.le_of_ble_eq_true rfl⟩ rfl ?_
    exact (l2 c1)
theorem k_X8_station_12 {x1 x2 x3 s0 : Int32} {hi : Nat → Nat → Int32}
    (l1 : ¬ s0 = (0 : Int32) → sk_Ct Γ m_X4_add [.ref 7, .int x1, .int x2, .int x3] (hi, sk_hr rr, sk_ks ++ ex) (fun r h' => sk_Go Γ (sk_M Γ m_X8_station Q) (0, 0) 30 [some (.ref 0), some (.int x1), some (.int x2), some (.int x3)] (r.toList ++ []) h'))
    (l2 : s0 = (0 : Int32) → Q (some (.int (-1))) (hi, sk_hr rr, sk_ks ++ ex)) :
    sk_Go Γ (sk_M Γ m_X8_station Q) (0, 0) 12 [some (.ref 0), some (.int x1), some (.int x2), some (.int x3)] [.int s0] (hi, sk_hr rr, sk_ks ++ ex) := by
  refine go_if_ne (tgt := 17) dX8_station_12 (by decide) (fun c1 => ?_) (fun c1 => ?_)
  · refine go_aload_n dX8_station_17 rfl ?_
    refine go_getR dX8_station_18 fl_X8_10 rfl rfl (show _ = some 1 from rfl) ?_
    refine go_getR dX8_station_21 fl_X8_178 rfl rfl (show _ = some 7 from rfl) ?_
    refine go_iload_n dX8_station_24 rfl ?_
    refine go_iload_n dX8_station_25 rfl ?_
    refine go_iload_n dX8_station_26 rfl ?_
    refine go_callV (μ := m_X4_add) (n := 30) (T := TX4) (N := 4) [.int x1, .int x2, .int x3] dX8_station_27 ok_X4_add ml_X8_182 wx_X4_add wl_X4_add (show _ = some (0, 3) from rfl) rfl rfl (Nat.le_of_ble_eq_true rfl) ⟨Nat.le_of_ble_eq_true rfl, Nat.le_of_ble_eq_true rfl⟩ ⟨Nat.le_of_ble_eq_true rfl, Nat.le_of_ble_eq_true rfl⟩ rfl ?_
    exact (l1 c1)
  · refine go_iconst dX8_station_15 (v := (-1)) (by decide) ?_
    exact go_iret (μ := m_X8_station) dX8_station_16 rfl (Nat.le_of_ble_eq_true rfl) (Nat.le_of_ble_eq_true rfl) (l2 c1)
theorem k_X8_station_30 {x1 x2 x3 s0 : Int32} {hi : Nat → Nat → Int32}
    (l1 : Q (some (.int s0)) (hi, sk_hr rr, sk_ks ++ ex)) :
    sk_Go Γ (sk_M Γ m_X8_station Q) (0, 0) 30 [some (.ref 0), some (.int x1), some (.int x2), some (.int x3)] [.int s0] (hi, sk_hr rr, sk_ks ++ ex) := by
  exact go_iret (μ := m_X8_station) dX8_station_30 rfl (Nat.le_of_ble_eq_true rfl) (Nat.le_of_ble_eq_true rfl) l1
theorem k_X8_tellStation_0 {x1 x2 : Int32} {hi : Nat → Nat → Int32}
    (l1 : sk_Ct Γ m_X8_within [.int x1, .int 0, .int ((hi 7 3) - 1)] (hi, sk_hr rr, sk_ks ++ ex) (fun r h' => sk_Go Γ (sk_M Γ m_X8_tellStation Q) (0, 0) 17 [some (.ref 0), some (.int x1), some (.int x2)] (r.toList ++ []) h')) :
    sk_Go Γ (sk_M Γ m_X8_tellStation Q) (0, 0) 0 [some (.ref 0), some (.int x1), some (.int x2)] [] (hi, sk_hr rr, sk_ks ++ ex) := by
  refine go_iload_n dX8_tellStation_0 rfl ?_
  refine go_iconst dX8_tellStation_1 (v := 0) (by decide) ?_
  refine go_aload_n dX8_tellStation_2 rfl ?_
  refine go_getR dX8_tellStation_3 fl_X8_10 rfl rfl (show _ = some 1 from rfl) ?_
  refine go_getR dX8_tellStation_6 fl_X8_178 rfl rfl (show _ = some 7 from rfl) ?_
  refine go_getI dX8_tellStation_9 fl_X8_187 rfl rfl ?_
  refine go_iconst dX8_tellStation_12 (v := 1) (by decide) ?_
  refine go_isub dX8_tellStation_13 ?_
  refine go_callS (μ := m_X8_within) (n := 17) [.int x1, .int 0, .int ((hi 7 3) - 1)] dX8_tellStation_14 ok_X8_within ml_X8_49 wx_X8_within rfl (Nat.le_of_ble_eq_true rfl) ⟨Nat.le_of_ble_eq_true rfl, Nat.le_of_ble_eq_true rfl⟩ ⟨Nat.le_of_ble_eq_true rfl, Nat.le_of_ble_eq_true rfl⟩ rfl ?_
  exact l1
theorem k_X8_tellStation_17 {x1 x2 s0 : Int32} {hi : Nat → Nat → Int32}
    (l1 : s0 = (0 : Int32) → Q (some (.int 0)) (hi, sk_hr rr, sk_ks ++ ex))
    (l2 : ¬ s0 = (0 : Int32) → sk_Ct Γ m_X8_isValue [.int x2] (hi, sk_hr rr, sk_ks ++ ex) (fun r h' => sk_Go Γ (sk_M Γ m_X8_tellStation Q) (0, 0) 24 [some (.ref 0), some (.int x1), some (.int x2)] (r.toList ++ []) h')) :
    sk_Go Γ (sk_M Γ m_X8_tellStation Q) (0, 0) 17 [some (.ref 0), some (.int x1), some (.int x2)] [.int s0] (hi, sk_hr rr, sk_ks ++ ex) := by
  refine go_if_eq (tgt := 27) dX8_tellStation_17 (by decide) (fun c1 => ?_) (fun c1 => ?_)
  · refine go_iconst dX8_tellStation_27 (v := 0) (by decide) ?_
    exact go_zret (μ := m_X8_tellStation) dX8_tellStation_28 rfl rfl (Nat.le_of_ble_eq_true rfl) (Nat.le_of_ble_eq_true rfl) (l1 c1)
  · refine go_iload_n dX8_tellStation_20 rfl ?_
    refine go_callS (μ := m_X8_isValue) (n := 24) [.int x2] dX8_tellStation_21 ok_X8_isValue ml_X8_134 wx_X8_isValue rfl (Nat.le_of_ble_eq_true rfl) ⟨Nat.le_of_ble_eq_true rfl, Nat.le_of_ble_eq_true rfl⟩ ⟨Nat.le_of_ble_eq_true rfl, Nat.le_of_ble_eq_true rfl⟩ rfl ?_
    exact (l2 c1)
theorem k_X8_tellStation_24 {x1 x2 s0 : Int32} {hi : Nat → Nat → Int32}
    (o1 : ¬ s0 = (0 : Int32) → vp_in x1 4)
    (l1 : ¬ s0 = (0 : Int32) → Q (some (.int 1)) ((sk_wi hi 10 (Int32.toNatClampNeg x1) x2), sk_hr rr, sk_ks ++ ex))
    (l2 : s0 = (0 : Int32) → Q (some (.int 0)) (hi, sk_hr rr, sk_ks ++ ex)) :
    sk_Go Γ (sk_M Γ m_X8_tellStation Q) (0, 0) 24 [some (.ref 0), some (.int x1), some (.int x2)] [.int s0] (hi, sk_hr rr, sk_ks ++ ex) := by
  refine go_if_ne (tgt := 29) dX8_tellStation_24 (by decide) (fun c1 => ?_) (fun c1 => ?_)
  · refine go_aload_n dX8_tellStation_29 rfl ?_
    refine go_getR dX8_tellStation_30 fl_X8_10 rfl rfl (show _ = some 1 from rfl) ?_
    refine go_getR dX8_tellStation_33 fl_X8_178 rfl rfl (show _ = some 7 from rfl) ?_
    refine go_getR dX8_tellStation_36 fl_X8_190 rfl rfl (show _ = some 10 from rfl) ?_
    refine go_iload_n dX8_tellStation_39 rfl ?_
    refine go_iload_n dX8_tellStation_40 rfl ?_
    refine go_iast dX8_tellStation_41 (show _ = some (1, 4) from rfl) (o1 c1) ?_
    refine go_iconst dX8_tellStation_42 (v := 1) (by decide) ?_
    exact go_zret (μ := m_X8_tellStation) dX8_tellStation_43 rfl rfl (Nat.le_of_ble_eq_true rfl) (Nat.le_of_ble_eq_true rfl) (l1 c1)
  · refine go_iconst dX8_tellStation_27 (v := 0) (by decide) ?_
    exact go_zret (μ := m_X8_tellStation) dX8_tellStation_28 rfl rfl (Nat.le_of_ble_eq_true rfl) (Nat.le_of_ble_eq_true rfl) (l2 c1)
theorem k_X8_map_0 {x1 x2 : Int32} {hi : Nat → Nat → Int32}
    (l1 : sk_Ct Γ m_X8_isOnMap [.int x1, .int x2] (hi, sk_hr rr, sk_ks ++ ex) (fun r h' => sk_Go Γ (sk_M Γ m_X8_map Q) (0, 0) 5 [some (.ref 0), some (.int x1), some (.int x2)] (r.toList ++ []) h')) :
    sk_Go Γ (sk_M Γ m_X8_map Q) (0, 0) 0 [some (.ref 0), some (.int x1), some (.int x2)] [] (hi, sk_hr rr, sk_ks ++ ex) := by
  refine go_iload_n dX8_map_0 rfl ?_
  refine go_iload_n dX8_map_1 rfl ?_
  refine go_callS (μ := m_X8_isOnMap) (n := 5) [.int x1, .int x2] dX8_map_2 ok_X8_isOnMap ml_X8_175 wx_X8_isOnMap rfl (Nat.le_of_ble_eq_true rfl) ⟨Nat.le_of_ble_eq_true rfl, Nat.le_of_ble_eq_true rfl⟩ ⟨Nat.le_of_ble_eq_true rfl, Nat.le_of_ble_eq_true rfl⟩ rfl ?_
  exact l1
theorem k_X8_map_5 {x1 x2 s0 : Int32} {hi : Nat → Nat → Int32}
    (l1 : ¬ s0 = (0 : Int32) → sk_Ct Γ m_X4_valueAt [.ref 7, .int x1, .int x2] (hi, sk_hr rr, sk_ks ++ ex) (fun r h' => sk_Go Γ (sk_M Γ m_X8_map Q) (0, 0) 22 [some (.ref 0), some (.int x1), some (.int x2)] (r.toList ++ []) h'))
    (l2 : s0 = (0 : Int32) → Q (some (.int (-1))) (hi, sk_hr rr, sk_ks ++ ex)) :
    sk_Go Γ (sk_M Γ m_X8_map Q) (0, 0) 5 [some (.ref 0), some (.int x1), some (.int x2)] [.int s0] (hi, sk_hr rr, sk_ks ++ ex) := by
  refine go_if_ne (tgt := 10) dX8_map_5 (by decide) (fun c1 => ?_) (fun c1 => ?_)
  · refine go_aload_n dX8_map_10 rfl ?_
    refine go_getR dX8_map_11 fl_X8_10 rfl rfl (show _ = some 1 from rfl) ?_
    refine go_getR dX8_map_14 fl_X8_178 rfl rfl (show _ = some 7 from rfl) ?_
    refine go_iload_n dX8_map_17 rfl ?_
    refine go_iload_n dX8_map_18 rfl ?_
    refine go_callV (μ := m_X4_valueAt) (n := 22) (T := TX4) (N := 4) [.int x1, .int x2] dX8_map_19 ok_X4_valueAt ml_X8_194 wx_X4_valueAt wl_X4_valueAt (show _ = some (0, 3) from rfl) rfl rfl (Nat.le_of_ble_eq_true rfl) ⟨Nat.le_of_ble_eq_true rfl, Nat.le_of_ble_eq_true rfl⟩ ⟨Nat.le_of_ble_eq_true rfl, Nat.le_of_ble_eq_true rfl⟩ rfl ?_
    exact (l1 c1)
  · refine go_iconst dX8_map_8 (v := (-1)) (by decide) ?_
    exact go_iret (μ := m_X8_map) dX8_map_9 rfl (Nat.le_of_ble_eq_true rfl) (Nat.le_of_ble_eq_true rfl) (l2 c1)
theorem k_X8_map_22 {x1 x2 s0 : Int32} {hi : Nat → Nat → Int32}
    (l1 : Q (some (.int s0)) (hi, sk_hr rr, sk_ks ++ ex)) :
    sk_Go Γ (sk_M Γ m_X8_map Q) (0, 0) 22 [some (.ref 0), some (.int x1), some (.int x2)] [.int s0] (hi, sk_hr rr, sk_ks ++ ex) := by
  exact go_iret (μ := m_X8_map) dX8_map_22 rfl (Nat.le_of_ble_eq_true rfl) (Nat.le_of_ble_eq_true rfl) l1
theorem k_X8_count_0 {x1 : Int32} {hi : Nat → Nat → Int32}
    (l1 : (Int32.toInt x1 < 0 ∨ 13 < Int32.toInt x1) → Q (some (.int (-1))) (hi, sk_hr rr, sk_ks ++ ex))
    (l2 : x1 = 0 → Q (some (.int (hi 7 3))) (hi, sk_hr rr, sk_ks ++ ex))
    (l3 : x1 = 1 → Q (some (.int (hi 2 2))) (hi, sk_hr rr, sk_ks ++ ex))
    (l4 : x1 = 2 → Q (some (.int (hi 2 3))) (hi, sk_hr rr, sk_ks ++ ex))
    (l5 : x1 = 3 → Q (some (.int (hi 2 4))) (hi, sk_hr rr, sk_ks ++ ex))
    (l6 : x1 = 4 → sk_Ct Γ m_X5_present [.ref 5] (hi, sk_hr rr, sk_ks ++ ex) (fun r h' => sk_Go Γ (sk_M Γ m_X8_count Q) (0, 0) 126 [some (.ref 0), some (.int x1)] (r.toList ++ []) h'))
    (l7 : x1 = 5 → sk_Ct Γ m_X5_lettered [.ref 5] (hi, sk_hr rr, sk_ks ++ ex) (fun r h' => sk_Go Γ (sk_M Γ m_X8_count Q) (0, 0) 137 [some (.ref 0), some (.int x1)] (r.toList ++ []) h'))
    (l8 : x1 = 6 → Q (some (.int (-1))) (hi, sk_hr rr, sk_ks ++ ex))
    (l9 : x1 = 7 → Q (some (.int (-1))) (hi, sk_hr rr, sk_ks ++ ex))
    (l10 : x1 = 8 → Q (some (.int (-1))) (hi, sk_hr rr, sk_ks ++ ex))
    (l11 : x1 = 9 → Q (some (.int (-1))) (hi, sk_hr rr, sk_ks ++ ex))
    (l12 : x1 = 10 → sk_Ct Γ m_X0_barredTones [.ref 2, .int (x1 - 10)] (hi, sk_hr rr, sk_ks ++ ex) (fun r h' => sk_Go Γ (sk_M Γ m_X8_count Q) (0, 0) 152 [some (.ref 0), some (.int x1)] (r.toList ++ []) h'))
    (l13 : x1 = 11 → sk_Ct Γ m_X0_barredTones [.ref 2, .int (x1 - 10)] (hi, sk_hr rr, sk_ks ++ ex) (fun r h' => sk_Go Γ (sk_M Γ m_X8_count Q) (0, 0) 152 [some (.ref 0), some (.int x1)] (r.toList ++ []) h'))
    (l14 : x1 = 12 → sk_Ct Γ m_X0_barredTones [.ref 2, .int (x1 - 10)] (hi, sk_hr rr, sk_ks ++ ex) (fun r h' => sk_Go Γ (sk_M Γ m_X8_count Q) (0, 0) 152 [some (.ref 0), some (.int x1)] (r.toList ++ []) h'))
    (l15 : x1 = 13 → sk_Ct Γ m_X0_barredTones [.ref 2, .int (x1 - 10)] (hi, sk_hr rr, sk_ks ++ ex) (fun r h' => sk_Go Γ (sk_M Γ m_X8_count Q) (0, 0) 152 [some (.ref 0), some (.int x1)] (r.toList ++ []) h')) :
    sk_Go Γ (sk_M Γ m_X8_count Q) (0, 0) 0 [some (.ref 0), some (.int x1)] [] (hi, sk_hr rr, sk_ks ++ ex) := by
  refine go_iload_n dX8_count_0 rfl ?_
  by_cases c1 : (Int32.toInt x1 < 0 ∨ 13 < Int32.toInt x1)
  · refine go_tout (tgt := 153) dX8_count_1 c1 (by decide) ?_
    refine go_iconst dX8_count_153 (v := (-1)) (by decide) ?_
    exact go_iret (μ := m_X8_count) dX8_count_154 rfl (Nat.le_of_ble_eq_true rfl) (Nat.le_of_ble_eq_true rfl) (l1 c1)
  · have hlo : ¬ Int32.toInt x1 < 0 := fun q => c1 (Or.inl q)
    have hhi : ¬ 13 < Int32.toInt x1 := fun q => c1 (Or.inr q)
    by_cases hc0 : Int32.toInt x1 = 0
    · have c1 : x1 = 0 := Int32.toInt_inj.mp hc0
      refine go_tin (tgt := 72) (off := 71) dX8_count_1 hlo hhi (by rw [hc0]; rfl) (by decide) ?_
      refine go_aload_n dX8_count_72 rfl ?_
      refine go_getR dX8_count_73 fl_X8_10 rfl rfl (show _ = some 1 from rfl) ?_
      refine go_getR dX8_count_76 fl_X8_178 rfl rfl (show _ = some 7 from rfl) ?_
      refine go_getI dX8_count_79 fl_X8_187 rfl rfl ?_
      exact go_iret (μ := m_X8_count) dX8_count_82 rfl (Nat.le_of_ble_eq_true rfl) (Nat.le_of_ble_eq_true rfl) (l2 c1)
    · skip
      by_cases hc1 : Int32.toInt x1 = 1
      · have c1 : x1 = 1 := Int32.toInt_inj.mp hc1
        refine go_tin (tgt := 83) (off := 82) dX8_count_1 hlo hhi (by rw [hc1]; rfl) (by decide) ?_
        refine go_aload_n dX8_count_83 rfl ?_
        refine go_getR dX8_count_84 fl_X8_10 rfl rfl (show _ = some 1 from rfl) ?_
        refine go_getR dX8_count_87 fl_X8_59 rfl rfl (show _ = some 2 from rfl) ?_
        refine go_getI dX8_count_90 fl_X8_195 rfl rfl ?_
        exact go_iret (μ := m_X8_count) dX8_count_93 rfl (Nat.le_of_ble_eq_true rfl) (Nat.le_of_ble_eq_true rfl) (l3 c1)
      · skip
        by_cases hc2 : Int32.toInt x1 = 2
        · have c1 : x1 = 2 := Int32.toInt_inj.mp hc2
          refine go_tin (tgt := 94) (off := 93) dX8_count_1 hlo hhi (by rw [hc2]; rfl) (by decide) ?_
          refine go_aload_n dX8_count_94 rfl ?_
          refine go_getR dX8_count_95 fl_X8_10 rfl rfl (show _ = some 1 from rfl) ?_
          refine go_getR dX8_count_98 fl_X8_59 rfl rfl (show _ = some 2 from rfl) ?_
          refine go_getI dX8_count_101 fl_X8_198 rfl rfl ?_
          exact go_iret (μ := m_X8_count) dX8_count_104 rfl (Nat.le_of_ble_eq_true rfl) (Nat.le_of_ble_eq_true rfl) (l4 c1)
        · skip
          by_cases hc3 : Int32.toInt x1 = 3
          · have c1 : x1 = 3 := Int32.toInt_inj.mp hc3
            refine go_tin (tgt := 105) (off := 104) dX8_count_1 hlo hhi (by rw [hc3]; rfl) (by decide) ?_
            refine go_aload_n dX8_count_105 rfl ?_
            refine go_getR dX8_count_106 fl_X8_10 rfl rfl (show _ = some 1 from rfl) ?_
            refine go_getR dX8_count_109 fl_X8_59 rfl rfl (show _ = some 2 from rfl) ?_
            refine go_getI dX8_count_112 fl_X8_87 rfl rfl ?_
            exact go_iret (μ := m_X8_count) dX8_count_115 rfl (Nat.le_of_ble_eq_true rfl) (Nat.le_of_ble_eq_true rfl) (l5 c1)
          · skip
            by_cases hc4 : Int32.toInt x1 = 4
            · have c1 : x1 = 4 := Int32.toInt_inj.mp hc4
              refine go_tin (tgt := 116) (off := 115) dX8_count_1 hlo hhi (by rw [hc4]; rfl) (by decide) ?_
              refine go_aload_n dX8_count_116 rfl ?_
              refine go_getR dX8_count_117 fl_X8_10 rfl rfl (show _ = some 1 from rfl) ?_
              refine go_getR dX8_count_120 fl_X8_137 rfl rfl (show _ = some 5 from rfl) ?_
              refine go_callV (μ := m_X5_present) (n := 126) (T := TX5) (N := 1) [] dX8_count_123 ok_X5_present ml_X8_201 wx_X5_present wl_X5_present (show _ = some (0, 4) from rfl) rfl rfl (Nat.le_of_ble_eq_true rfl) ⟨Nat.le_of_ble_eq_true rfl, Nat.le_of_ble_eq_true rfl⟩ ⟨Nat.le_of_ble_eq_true rfl, Nat.le_of_ble_eq_true rfl⟩ rfl ?_
              exact (l6 c1)
            · skip
              by_cases hc5 : Int32.toInt x1 = 5
              · have c1 : x1 = 5 := Int32.toInt_inj.mp hc5
                refine go_tin (tgt := 127) (off := 126) dX8_count_1 hlo hhi (by rw [hc5]; rfl) (by decide) ?_
                refine go_aload_n dX8_count_127 rfl ?_
                refine go_getR dX8_count_128 fl_X8_10 rfl rfl (show _ = some 1 from rfl) ?_
                refine go_getR dX8_count_131 fl_X8_137 rfl rfl (show _ = some 5 from rfl) ?_
                refine go_callV (μ := m_X5_lettered) (n := 137) (T := TX5) (N := 1) [] dX8_count_134 ok_X5_lettered ml_X8_205 wx_X5_lettered wl_X5_lettered (show _ = some (0, 4) from rfl) rfl rfl (Nat.le_of_ble_eq_true rfl) ⟨Nat.le_of_ble_eq_true rfl, Nat.le_of_ble_eq_true rfl⟩ ⟨Nat.le_of_ble_eq_true rfl, Nat.le_of_ble_eq_true rfl⟩ rfl ?_
                exact (l7 c1)
              · skip
                by_cases hc6 : Int32.toInt x1 = 6
                · have c1 : x1 = 6 := Int32.toInt_inj.mp hc6
                  refine go_tin (tgt := 153) (off := 152) dX8_count_1 hlo hhi (by rw [hc6]; rfl) (by decide) ?_
                  refine go_iconst dX8_count_153 (v := (-1)) (by decide) ?_
                  exact go_iret (μ := m_X8_count) dX8_count_154 rfl (Nat.le_of_ble_eq_true rfl) (Nat.le_of_ble_eq_true rfl) (l8 c1)
                · skip
                  by_cases hc7 : Int32.toInt x1 = 7
                  · have c1 : x1 = 7 := Int32.toInt_inj.mp hc7
                    refine go_tin (tgt := 153) (off := 152) dX8_count_1 hlo hhi (by rw [hc7]; rfl) (by decide) ?_
                    refine go_iconst dX8_count_153 (v := (-1)) (by decide) ?_
                    exact go_iret (μ := m_X8_count) dX8_count_154 rfl (Nat.le_of_ble_eq_true rfl) (Nat.le_of_ble_eq_true rfl) (l9 c1)
                  · skip
                    by_cases hc8 : Int32.toInt x1 = 8
                    · have c1 : x1 = 8 := Int32.toInt_inj.mp hc8
                      refine go_tin (tgt := 153) (off := 152) dX8_count_1 hlo hhi (by rw [hc8]; rfl) (by decide) ?_
                      refine go_iconst dX8_count_153 (v := (-1)) (by decide) ?_
                      exact go_iret (μ := m_X8_count) dX8_count_154 rfl (Nat.le_of_ble_eq_true rfl) (Nat.le_of_ble_eq_true rfl) (l10 c1)
                    · skip
                      by_cases hc9 : Int32.toInt x1 = 9
                      · have c1 : x1 = 9 := Int32.toInt_inj.mp hc9
                        refine go_tin (tgt := 153) (off := 152) dX8_count_1 hlo hhi (by rw [hc9]; rfl) (by decide) ?_
                        refine go_iconst dX8_count_153 (v := (-1)) (by decide) ?_
                        exact go_iret (μ := m_X8_count) dX8_count_154 rfl (Nat.le_of_ble_eq_true rfl) (Nat.le_of_ble_eq_true rfl) (l11 c1)
                      · skip
                        by_cases hc10 : Int32.toInt x1 = 10
                        · have c1 : x1 = 10 := Int32.toInt_inj.mp hc10
                          refine go_tin (tgt := 138) (off := 137) dX8_count_1 hlo hhi (by rw [hc10]; rfl) (by decide) ?_
                          refine go_aload_n dX8_count_138 rfl ?_
                          refine go_getR dX8_count_139 fl_X8_10 rfl rfl (show _ = some 1 from rfl) ?_
                          refine go_getR dX8_count_142 fl_X8_59 rfl rfl (show _ = some 2 from rfl) ?_
                          refine go_iload_n dX8_count_145 rfl ?_
                          refine go_bipush dX8_count_146 (v := 10) (by decide) ?_
                          refine go_isub dX8_count_148 ?_
                          refine go_callV (μ := m_X0_barredTones) (n := 152) (T := TX0) (N := 5) [.int (x1 - 10)] dX8_count_149 ok_X0_barredTones ml_X8_208 wx_X0_barredTones wl_X0_barredTones (show _ = some (0, 0) from rfl) rfl rfl (Nat.le_of_ble_eq_true rfl) ⟨Nat.le_of_ble_eq_true rfl, Nat.le_of_ble_eq_true rfl⟩ ⟨Nat.le_of_ble_eq_true rfl, Nat.le_of_ble_eq_true rfl⟩ rfl ?_
                          exact (l12 c1)
                        · skip
                          by_cases hc11 : Int32.toInt x1 = 11
                          · have c1 : x1 = 11 := Int32.toInt_inj.mp hc11
                            refine go_tin (tgt := 138) (off := 137) dX8_count_1 hlo hhi (by rw [hc11]; rfl) (by decide) ?_
                            refine go_aload_n dX8_count_138 rfl ?_
                            refine go_getR dX8_count_139 fl_X8_10 rfl rfl (show _ = some 1 from rfl) ?_
                            refine go_getR dX8_count_142 fl_X8_59 rfl rfl (show _ = some 2 from rfl) ?_
                            refine go_iload_n dX8_count_145 rfl ?_
                            refine go_bipush dX8_count_146 (v := 10) (by decide) ?_
                            refine go_isub dX8_count_148 ?_
                            refine go_callV (μ := m_X0_barredTones) (n := 152) (T := TX0) (N := 5) [.int (x1 - 10)] dX8_count_149 ok_X0_barredTones ml_X8_208 wx_X0_barredTones wl_X0_barredTones (show _ = some (0, 0) from rfl) rfl rfl (Nat.le_of_ble_eq_true rfl) ⟨Nat.le_of_ble_eq_true rfl, Nat.le_of_ble_eq_true rfl⟩ ⟨Nat.le_of_ble_eq_true rfl, Nat.le_of_ble_eq_true rfl⟩ rfl ?_
                            exact (l13 c1)
                          · skip
                            by_cases hc12 : Int32.toInt x1 = 12
                            · have c1 : x1 = 12 := Int32.toInt_inj.mp hc12
                              refine go_tin (tgt := 138) (off := 137) dX8_count_1 hlo hhi (by rw [hc12]; rfl) (by decide) ?_
                              refine go_aload_n dX8_count_138 rfl ?_
                              refine go_getR dX8_count_139 fl_X8_10 rfl rfl (show _ = some 1 from rfl) ?_
                              refine go_getR dX8_count_142 fl_X8_59 rfl rfl (show _ = some 2 from rfl) ?_
                              refine go_iload_n dX8_count_145 rfl ?_
                              refine go_bipush dX8_count_146 (v := 10) (by decide) ?_
                              refine go_isub dX8_count_148 ?_
                              refine go_callV (μ := m_X0_barredTones) (n := 152) (T := TX0) (N := 5) [.int (x1 - 10)] dX8_count_149 ok_X0_barredTones ml_X8_208 wx_X0_barredTones wl_X0_barredTones (show _ = some (0, 0) from rfl) rfl rfl (Nat.le_of_ble_eq_true rfl) ⟨Nat.le_of_ble_eq_true rfl, Nat.le_of_ble_eq_true rfl⟩ ⟨Nat.le_of_ble_eq_true rfl, Nat.le_of_ble_eq_true rfl⟩ rfl ?_
                              exact (l14 c1)
                            · skip
                              have hc13 : Int32.toInt x1 = 13 := by omega
                              have c1 : x1 = 13 := Int32.toInt_inj.mp hc13
                              refine go_tin (tgt := 138) (off := 137) dX8_count_1 hlo hhi (by rw [hc13]; rfl) (by decide) ?_
                              refine go_aload_n dX8_count_138 rfl ?_
                              refine go_getR dX8_count_139 fl_X8_10 rfl rfl (show _ = some 1 from rfl) ?_
                              refine go_getR dX8_count_142 fl_X8_59 rfl rfl (show _ = some 2 from rfl) ?_
                              refine go_iload_n dX8_count_145 rfl ?_
                              refine go_bipush dX8_count_146 (v := 10) (by decide) ?_
                              refine go_isub dX8_count_148 ?_
                              refine go_callV (μ := m_X0_barredTones) (n := 152) (T := TX0) (N := 5) [.int (x1 - 10)] dX8_count_149 ok_X0_barredTones ml_X8_208 wx_X0_barredTones wl_X0_barredTones (show _ = some (0, 0) from rfl) rfl rfl (Nat.le_of_ble_eq_true rfl) ⟨Nat.le_of_ble_eq_true rfl, Nat.le_of_ble_eq_true rfl⟩ ⟨Nat.le_of_ble_eq_true rfl, Nat.le_of_ble_eq_true rfl⟩ rfl ?_
                              exact (l15 c1)
theorem k_X8_count_126 {x1 s0 : Int32} {hi : Nat → Nat → Int32}
    (l1 : Q (some (.int s0)) (hi, sk_hr rr, sk_ks ++ ex)) :
    sk_Go Γ (sk_M Γ m_X8_count Q) (0, 0) 126 [some (.ref 0), some (.int x1)] [.int s0] (hi, sk_hr rr, sk_ks ++ ex) := by
  exact go_iret (μ := m_X8_count) dX8_count_126 rfl (Nat.le_of_ble_eq_true rfl) (Nat.le_of_ble_eq_true rfl) l1
theorem k_X8_count_137 {x1 s0 : Int32} {hi : Nat → Nat → Int32}
    (l1 : Q (some (.int s0)) (hi, sk_hr rr, sk_ks ++ ex)) :
    sk_Go Γ (sk_M Γ m_X8_count Q) (0, 0) 137 [some (.ref 0), some (.int x1)] [.int s0] (hi, sk_hr rr, sk_ks ++ ex) := by
  exact go_iret (μ := m_X8_count) dX8_count_137 rfl (Nat.le_of_ble_eq_true rfl) (Nat.le_of_ble_eq_true rfl) l1
theorem k_X8_count_152 {x1 s0 : Int32} {hi : Nat → Nat → Int32}
    (l1 : Q (some (.int s0)) (hi, sk_hr rr, sk_ks ++ ex)) :
    sk_Go Γ (sk_M Γ m_X8_count Q) (0, 0) 152 [some (.ref 0), some (.int x1)] [.int s0] (hi, sk_hr rr, sk_ks ++ ex) := by
  exact go_iret (μ := m_X8_count) dX8_count_152 rfl (Nat.le_of_ble_eq_true rfl) (Nat.le_of_ble_eq_true rfl) l1
end BLK
