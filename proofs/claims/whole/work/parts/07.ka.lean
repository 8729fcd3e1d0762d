theorem go_wk {Γ : sk_Cx} {X : sk_Px} {u : Nat × Nat} {pc : Nat} {L L' : List (Option Value)} {st : List Value} {h : sk_Hp} (k : sk_Go Γ X u pc L' st h) (hl : sk_le L' L) : sk_Go Γ X u pc L st h := go_weak hl k
section BLK
variable {Γ : sk_Cx} {Q : Option Value → sk_Hp → Prop} {rr : Nat → Nat → Option Nat} {ex : List (Nat × Nat)}
theorem k_X0_areEchoes_0 {x0 : Int32} {hi : Nat → Nat → Int32}
    (l1 : sk_Go Γ (sk_M Γ m_X0_areEchoes Q) (0, 0) 2 [some (.int x0), some (.int 0)] [] (hi, sk_hr rr, sk_ks ++ ex)) :
    sk_Go Γ (sk_M Γ m_X0_areEchoes Q) (0, 0) 0 [some (.int x0), none] [] (hi, sk_hr rr, sk_ks ++ ex) := by
  refine go_iconst dX0_areEchoes_0 (v := 0) (by decide) ?_
  refine go_istore_n dX0_areEchoes_1 (Nat.le_of_ble_eq_true rfl) ?_
  show sk_Go Γ (sk_M Γ m_X0_areEchoes Q) (0, 0) _ [some (.int x0), some (.int 0)] [] _
  exact l1
theorem k_X0_areEchoes_2 {x0 x1 : Int32} {hi : Nat → Nat → Int32}
    (l1 : (8 : Int32) ≤ x1 → Q (some (.int 1)) (hi, sk_hr rr, sk_ks ++ ex))
    (l2 : ¬ (8 : Int32) ≤ x1 → (((Int32.toUInt32 x0 >>> (Int32.toUInt32 (4 * x1) &&& Int32.toUInt32 31)).toInt32) &&& 15) ≤ (9 : Int32) → sk_Go Γ (sk_M Γ m_X0_areEchoes Q) (0, 0) 2 [some (.int x0), some (.int (x1 + 1))] [] (hi, sk_hr rr, sk_ks ++ ex))
    (l3 : ¬ (8 : Int32) ≤ x1 → ¬ (((Int32.toUInt32 x0 >>> (Int32.toUInt32 (4 * x1) &&& Int32.toUInt32 31)).toInt32) &&& 15) ≤ (9 : Int32) → Q (some (.int 0)) (hi, sk_hr rr, sk_ks ++ ex)) :
    sk_Go Γ (sk_M Γ m_X0_areEchoes Q) (0, 0) 2 [some (.int x0), some (.int x1)] [] (hi, sk_hr rr, sk_ks ++ ex) := by
  refine go_iload_n dX0_areEchoes_2 rfl ?_
  refine go_bipush dX0_areEchoes_3 (v := 8) (by decide) ?_
  refine go_icmp_ge (tgt := 29) dX0_areEchoes_5 (by decide) (fun c1 => ?_) (fun c1 => ?_)
  · refine go_iconst dX0_areEchoes_29 (v := 1) (by decide) ?_
    exact go_zret (μ := m_X0_areEchoes) dX0_areEchoes_30 rfl rfl (Nat.le_of_ble_eq_true rfl) (Nat.le_of_ble_eq_true rfl) (l1 c1)
  · refine go_iload_n dX0_areEchoes_8 rfl ?_
    refine go_iconst dX0_areEchoes_9 (v := 4) (by decide) ?_
    refine go_iload_n dX0_areEchoes_10 rfl ?_
    refine go_imul dX0_areEchoes_11 ?_
    refine go_iushr dX0_areEchoes_12 ?_
    refine go_bipush dX0_areEchoes_13 (v := 15) (by decide) ?_
    refine go_iand dX0_areEchoes_15 ?_
    refine go_bipush dX0_areEchoes_16 (v := 9) (by decide) ?_
    refine go_icmp_le (tgt := 23) dX0_areEchoes_18 (by decide) (fun c2 => ?_) (fun c2 => ?_)
    · refine go_iinc (v := x1 + 1) dX0_areEchoes_23 rfl rfl (Nat.le_of_ble_eq_true rfl) ?_
      show sk_Go Γ (sk_M Γ m_X0_areEchoes Q) (0, 0) _ [some (.int x0), some (.int (x1 + 1))] [] _
      refine go_goto (tgt := 2) dX0_areEchoes_26 (by decide) ?_
      exact (l2 c1 c2)
    · refine go_iconst dX0_areEchoes_21 (v := 0) (by decide) ?_
      exact go_zret (μ := m_X0_areEchoes) dX0_areEchoes_22 rfl rfl (Nat.le_of_ble_eq_true rfl) (Nat.le_of_ble_eq_true rfl) (l3 c1 c2)
theorem k_X0_rowOf_0 {x0 x1 x2 : Int32} {hi : Nat → Nat → Int32}
    (l1 : Q (some (.int ((((x0 * 24) + x1) * 4) + x2))) (hi, sk_hr rr, sk_ks ++ ex)) :
    sk_Go Γ (sk_M Γ m_X0_rowOf Q) (0, 0) 0 [some (.int x0), some (.int x1), some (.int x2)] [] (hi, sk_hr rr, sk_ks ++ ex) := by
  refine go_iload_n dX0_rowOf_0 rfl ?_
  refine go_bipush dX0_rowOf_1 (v := 24) (by decide) ?_
  refine go_imul dX0_rowOf_3 ?_
  refine go_iload_n dX0_rowOf_4 rfl ?_
  refine go_iadd dX0_rowOf_5 ?_
  refine go_iconst dX0_rowOf_6 (v := 4) (by decide) ?_
  refine go_imul dX0_rowOf_7 ?_
  refine go_iload_n dX0_rowOf_8 rfl ?_
  refine go_iadd dX0_rowOf_9 ?_
  exact go_iret (μ := m_X0_rowOf) dX0_rowOf_10 rfl (Nat.le_of_ble_eq_true rfl) (Nat.le_of_ble_eq_true rfl) l1
theorem k_X0_bitsBehind_0 {x0 : Int32} {hi : Nat → Nat → Int32}
    (l1 : Q (some (.int (4 * (7 - (x0 - x0 / 8 * 8))))) (hi, sk_hr rr, sk_ks ++ ex)) :
    sk_Go Γ (sk_M Γ m_X0_bitsBehind Q) (0, 0) 0 [some (.int x0)] [] (hi, sk_hr rr, sk_ks ++ ex) := by
  refine go_iconst dX0_bitsBehind_0 (v := 4) (by decide) ?_
  refine go_bipush dX0_bitsBehind_1 (v := 7) (by decide) ?_
  refine go_iload_n dX0_bitsBehind_3 rfl ?_
  refine go_bipush dX0_bitsBehind_4 (v := 8) (by decide) ?_
  refine go_irem dX0_bitsBehind_6 (by decide) ?_
  refine go_isub dX0_bitsBehind_7 ?_
  refine go_imul dX0_bitsBehind_8 ?_
  exact go_iret (μ := m_X0_bitsBehind) dX0_bitsBehind_9 rfl (Nat.le_of_ble_eq_true rfl) (Nat.le_of_ble_eq_true rfl) l1
theorem k_X0_echoAt_0 {x1 x2 x3 : Int32} {hi : Nat → Nat → Int32}
    (l1 : sk_Ct Γ m_X0_rowOf [.int x1, .int x2, .int (x3 / 8)] (hi, sk_hr rr, sk_ks ++ ex) (fun r h' => sk_Go Γ (sk_M Γ m_X0_echoAt Q) (0, 0) 13 [some (.ref 2), some (.int x1), some (.int x2), some (.int x3), none] (r.toList ++ [.ref 3]) h')) :
    sk_Go Γ (sk_M Γ m_X0_echoAt Q) (0, 0) 0 [some (.ref 2), some (.int x1), some (.int x2), some (.int x3), none] [] (hi, sk_hr rr, sk_ks ++ ex) := by
  refine go_aload_n dX0_echoAt_0 rfl ?_
  refine go_getR dX0_echoAt_1 fl_X0_9 rfl rfl (show _ = some 3 from rfl) ?_
  refine go_iload_n dX0_echoAt_4 rfl ?_
  refine go_iload_n dX0_echoAt_5 rfl ?_
  refine go_iload_n dX0_echoAt_6 rfl ?_
  refine go_bipush dX0_echoAt_7 (v := 8) (by decide) ?_
  refine go_idiv dX0_echoAt_9 (by decide) ?_
  refine go_callS (μ := m_X0_rowOf) (n := 13) [.int x1, .int x2, .int (x3 / 8)] dX0_echoAt_10 ok_X0_rowOf ml_X0_28 wx_X0_rowOf rfl (Nat.le_of_ble_eq_true rfl) ⟨Nat.le_of_ble_eq_true rfl, Nat.le_of_ble_eq_true rfl⟩ ⟨Nat.le_of_ble_eq_true rfl, Nat.le_of_ble_eq_true rfl⟩ rfl ?_
  exact l1
theorem k_X0_echoAt_13 {x1 x2 x3 s1 : Int32} {hi : Nat → Nat → Int32}
    (o1 : vp_in s1 384)
    (l1 : sk_Ct Γ m_X0_bitsBehind [.int x3] (hi, sk_hr rr, sk_ks ++ ex) (fun r h' => sk_Go Γ (sk_M Γ m_X0_echoAt Q) (0, 0) 22 [some (.ref 2), some (.int x1), some (.int x2), some (.int x3), some (.int (hi 3 (Int32.toNatClampNeg s1)))] (r.toList ++ [.int (hi 3 (Int32.toNatClampNeg s1))]) h')) :
    sk_Go Γ (sk_M Γ m_X0_echoAt Q) (0, 0) 13 [some (.ref 2), some (.int x1), some (.int x2), some (.int x3), none] [.int s1, .ref 3] (hi, sk_hr rr, sk_ks ++ ex) := by
  refine go_iald dX0_echoAt_13 (show _ = some (1, 384) from rfl) o1 ?_
  refine go_istore dX0_echoAt_14 (Nat.le_of_ble_eq_true rfl) ?_
  show sk_Go Γ (sk_M Γ m_X0_echoAt Q) (0, 0) _ [some (.ref 2), some (.int x1), some (.int x2), some (.int x3), some (.int (hi 3 (Int32.toNatClampNeg s1)))] [] _
  refine go_iload dX0_echoAt_16 rfl ?_
  refine go_iload_n dX0_echoAt_18 rfl ?_
  refine go_callS (μ := m_X0_bitsBehind) (n := 22) [.int x3] dX0_echoAt_19 ok_X0_bitsBehind ml_X0_32 wx_X0_bitsBehind rfl (Nat.le_of_ble_eq_true rfl) ⟨Nat.le_of_ble_eq_true rfl, Nat.le_of_ble_eq_true rfl⟩ ⟨Nat.le_of_ble_eq_true rfl, Nat.le_of_ble_eq_true rfl⟩ rfl ?_
  exact l1
theorem k_X0_echoAt_22 {x1 x2 x3 x4 s1 s0 : Int32} {hi : Nat → Nat → Int32}
    (l1 : Q (some (.int (((Int32.toUInt32 s0 >>> (Int32.toUInt32 s1 &&& Int32.toUInt32 31)).toInt32) &&& 15))) (hi, sk_hr rr, sk_ks ++ ex)) :
    sk_Go Γ (sk_M Γ m_X0_echoAt Q) (0, 0) 22 [some (.ref 2), some (.int x1), some (.int x2), some (.int x3), some (.int x4)] [.int s1, .int s0] (hi, sk_hr rr, sk_ks ++ ex) := by
  refine go_iushr dX0_echoAt_22 ?_
  refine go_bipush dX0_echoAt_23 (v := 15) (by decide) ?_
  refine go_iand dX0_echoAt_25 ?_
  exact go_iret (μ := m_X0_echoAt) dX0_echoAt_26 rfl (Nat.le_of_ble_eq_true rfl) (Nat.le_of_ble_eq_true rfl) l1
theorem k_X0_judge_0 {x1 x2 : Int32} {hi : Nat → Nat → Int32}
    (l1 : sk_Go Γ (sk_M Γ m_X0_judge Q) (0, 0) 5 [some (.ref 2), some (.int x1), some (.int x2), some (.int 0), some (.int 0)] [] (hi, sk_hr rr, sk_ks ++ ex)) :
    sk_Go Γ (sk_M Γ m_X0_judge Q) (0, 0) 0 [some (.ref 2), some (.int x1), some (.int x2), none, none] [] (hi, sk_hr rr, sk_ks ++ ex) := by
  refine go_iconst dX0_judge_0 (v := 0) (by decide) ?_
  refine go_istore_n dX0_judge_1 (Nat.le_of_ble_eq_true rfl) ?_
  show sk_Go Γ (sk_M Γ m_X0_judge Q) (0, 0) _ [some (.ref 2), some (.int x1), some (.int x2), some (.int 0), none] [] _
  refine go_iconst dX0_judge_2 (v := 0) (by decide) ?_
  refine go_istore dX0_judge_3 (Nat.le_of_ble_eq_true rfl) ?_
  show sk_Go Γ (sk_M Γ m_X0_judge Q) (0, 0) _ [some (.ref 2), some (.int x1), some (.int x2), some (.int 0), some (.int 0)] [] _
  exact l1
theorem k_X0_judge_5 {x1 x2 x3 x4 : Int32} {hi : Nat → Nat → Int32}
    (o1 : (32 : Int32) ≤ x4 → x3 < (hi 2 3) → vp_in x1 4)
    (l1 : (32 : Int32) ≤ x4 → x3 < (hi 2 3) → Q none ((sk_wi hi 4 (Int32.toNatClampNeg x1) ((hi 4 (Int32.toNatClampNeg x1)) &&& ((1 <<< (x2 &&& 31)) ^^^ (-1)))), sk_hr rr, sk_ks ++ ex))
    (o2 : (32 : Int32) ≤ x4 → ¬ x3 < (hi 2 3) → vp_in x1 4)
    (l2 : (32 : Int32) ≤ x4 → ¬ x3 < (hi 2 3) → Q none ((sk_wi hi 4 (Int32.toNatClampNeg x1) ((hi 4 (Int32.toNatClampNeg x1)) ||| (1 <<< (x2 &&& 31)))), sk_hr rr, sk_ks ++ ex))
    (l3 : ¬ (32 : Int32) ≤ x4 → sk_Ct Γ m_X0_echoAt [.ref 2, .int x1, .int x2, .int x4] (hi, sk_hr rr, sk_ks ++ ex) (fun r h' => sk_Go Γ (sk_M Γ m_X0_judge Q) (0, 0) 20 [some (.ref 2), some (.int x1), some (.int x2), some (.int x3), some (.int x4)] (r.toList ++ []) h')) :
    sk_Go Γ (sk_M Γ m_X0_judge Q) (0, 0) 5 [some (.ref 2), some (.int x1), some (.int x2), some (.int x3), some (.int x4)] [] (hi, sk_hr rr, sk_ks ++ ex) := by
  refine go_iload dX0_judge_5 rfl ?_
  refine go_bipush dX0_judge_7 (v := 32) (by decide) ?_
  refine go_icmp_ge (tgt := 36) dX0_judge_9 (by decide) (fun c1 => ?_) (fun c1 => ?_)
  · refine go_iconst dX0_judge_36 (v := 1) (by decide) ?_
    refine go_iload_n dX0_judge_37 rfl ?_
    refine go_ishl dX0_judge_38 ?_
    refine go_istore dX0_judge_39 (Nat.le_of_ble_eq_true rfl) ?_
    show sk_Go Γ (sk_M Γ m_X0_judge Q) (0, 0) _ [some (.ref 2), some (.int x1), some (.int x2), some (.int x3), some (.int (1 <<< (x2 &&& 31)))] [] _
    refine go_aload_n dX0_judge_41 rfl ?_
    refine go_getR dX0_judge_42 fl_X0_15 rfl rfl (show _ = some 4 from rfl) ?_
    refine go_iload_n dX0_judge_45 rfl ?_
    refine go_iload_n dX0_judge_46 rfl ?_
    refine go_aload_n dX0_judge_47 rfl ?_
    refine go_getI dX0_judge_48 fl_X0_22 rfl rfl ?_
    refine go_icmp_lt (tgt := 66) dX0_judge_51 (by decide) (fun c2 => ?_) (fun c2 => ?_)
    · refine go_aload_n dX0_judge_66 rfl ?_
      refine go_getR dX0_judge_67 fl_X0_15 rfl rfl (show _ = some 4 from rfl) ?_
      refine go_iload_n dX0_judge_70 rfl ?_
      refine go_iald dX0_judge_71 (show _ = some (1, 4) from rfl) (o1 c1 c2) ?_
      refine go_iload dX0_judge_72 rfl ?_
      refine go_iconst dX0_judge_74 (v := (-1)) (by decide) ?_
      refine go_ixor dX0_judge_75 ?_
      refine go_iand dX0_judge_76 ?_
      refine go_iast dX0_judge_77 (show _ = some (1, 4) from rfl) (o1 c1 c2) ?_
      exact go_vret (μ := m_X0_judge) dX0_judge_78 rfl (Nat.le_of_ble_eq_true rfl) (Nat.le_of_ble_eq_true rfl) (l1 c1 c2)
    · refine go_aload_n dX0_judge_54 rfl ?_
      refine go_getR dX0_judge_55 fl_X0_15 rfl rfl (show _ = some 4 from rfl) ?_
      refine go_iload_n dX0_judge_58 rfl ?_
      refine go_iald dX0_judge_59 (show _ = some (1, 4) from rfl) (o2 c1 c2) ?_
      refine go_iload dX0_judge_60 rfl ?_
      refine go_ior dX0_judge_62 ?_
      refine go_goto (tgt := 77) dX0_judge_63 (by decide) ?_
      refine go_iast dX0_judge_77 (show _ = some (1, 4) from rfl) (o2 c1 c2) ?_
      exact go_vret (μ := m_X0_judge) dX0_judge_78 rfl (Nat.le_of_ble_eq_true rfl) (Nat.le_of_ble_eq_true rfl) (l2 c1 c2)
  · refine go_aload_n dX0_judge_12 rfl ?_
    refine go_iload_n dX0_judge_13 rfl ?_
    refine go_iload_n dX0_judge_14 rfl ?_
    refine go_iload dX0_judge_15 rfl ?_
    refine go_callV (μ := m_X0_echoAt) (n := 20) (T := TX0) (N := 5) [.int x1, .int x2, .int x4] dX0_judge_17 ok_X0_echoAt ml_X0_40 wx_X0_echoAt wl_X0_echoAt (show _ = some (0, 0) from rfl) rfl rfl (Nat.le_of_ble_eq_true rfl) ⟨Nat.le_of_ble_eq_true rfl, Nat.le_of_ble_eq_true rfl⟩ ⟨Nat.le_of_ble_eq_true rfl, Nat.le_of_ble_eq_true rfl⟩ rfl ?_
    exact (l3 c1)
theorem k_X0_judge_20 {x1 x2 x3 x4 s0 : Int32} {hi : Nat → Nat → Int32}
    (l1 : s0 < (hi 2 2) → sk_Go Γ (sk_M Γ m_X0_judge Q) (0, 0) 5 [some (.ref 2), some (.int x1), some (.int x2), some (.int x3), some (.int (x4 + 1))] [] (hi, sk_hr rr, sk_ks ++ ex))
    (l2 : ¬ s0 < (hi 2 2) → sk_Go Γ (sk_M Γ m_X0_judge Q) (0, 0) 5 [some (.ref 2), some (.int x1), some (.int x2), some (.int (x3 + 1)), some (.int (x4 + 1))] [] (hi, sk_hr rr, sk_ks ++ ex)) :
    sk_Go Γ (sk_M Γ m_X0_judge Q) (0, 0) 20 [some (.ref 2), some (.int x1), some (.int x2), some (.int x3), some (.int x4)] [.int s0] (hi, sk_hr rr, sk_ks ++ ex) := by
  refine go_aload_n dX0_judge_20 rfl ?_
  refine go_getI dX0_judge_21 fl_X0_18 rfl rfl ?_
  refine go_icmp_lt (tgt := 30) dX0_judge_24 (by decide) (fun c1 => ?_) (fun c1 => ?_)
  · refine go_iinc (v := x4 + 1) dX0_judge_30 rfl rfl (Nat.le_of_ble_eq_true rfl) ?_
    show sk_Go Γ (sk_M Γ m_X0_judge Q) (0, 0) _ [some (.ref 2), some (.int x1), some (.int x2), some (.int x3), some (.int (x4 + 1))] [] _
    refine go_goto (tgt := 5) dX0_judge_33 (by decide) ?_
    exact (l1 c1)
  · refine go_iinc (v := x3 + 1) dX0_judge_27 rfl rfl (Nat.le_of_ble_eq_true rfl) ?_
    show sk_Go Γ (sk_M Γ m_X0_judge Q) (0, 0) _ [some (.ref 2), some (.int x1), some (.int x2), some (.int (x3 + 1)), some (.int x4)] [] _
    refine go_iinc (v := x4 + 1) dX0_judge_30 rfl rfl (Nat.le_of_ble_eq_true rfl) ?_
    show sk_Go Γ (sk_M Γ m_X0_judge Q) (0, 0) _ [some (.ref 2), some (.int x1), some (.int x2), some (.int (x3 + 1)), some (.int (x4 + 1))] [] _
    refine go_goto (tgt := 5) dX0_judge_33 (by decide) ?_
    exact (l2 c1)
theorem k_X0_putEight_0 {x1 x2 x3 x4 : Int32} {hi : Nat → Nat → Int32}
    (l1 : sk_Ct Γ m_X0_rowOf [.int x1, .int x2, .int x3] (hi, sk_hr rr, sk_ks ++ ex) (fun r h' => sk_Go Γ (sk_M Γ m_X0_putEight Q) (0, 0) 10 [some (.ref 2), some (.int x1), some (.int x2), some (.int x3), some (.int x4)] (r.toList ++ [.ref 3]) h')) :
    sk_Go Γ (sk_M Γ m_X0_putEight Q) (0, 0) 0 [some (.ref 2), some (.int x1), some (.int x2), some (.int x3), some (.int x4)] [] (hi, sk_hr rr, sk_ks ++ ex) := by
  refine go_aload_n dX0_putEight_0 rfl ?_
  refine go_getR dX0_putEight_1 fl_X0_9 rfl rfl (show _ = some 3 from rfl) ?_
  refine go_iload_n dX0_putEight_4 rfl ?_
  refine go_iload_n dX0_putEight_5 rfl ?_
  refine go_iload_n dX0_putEight_6 rfl ?_
  refine go_callS (μ := m_X0_rowOf) (n := 10) [.int x1, .int x2, .int x3] dX0_putEight_7 ok_X0_rowOf ml_X0_28 wx_X0_rowOf rfl (Nat.le_of_ble_eq_true rfl) ⟨Nat.le_of_ble_eq_true rfl, Nat.le_of_ble_eq_true rfl⟩ ⟨Nat.le_of_ble_eq_true rfl, Nat.le_of_ble_eq_true rfl⟩ rfl ?_
  exact l1
theorem k_X0_putEight_10 {x1 x2 x3 x4 s1 : Int32} {hi : Nat → Nat → Int32}
    (o1 : vp_in s1 384)
    (l1 : sk_Ct Γ m_X0_judge [.ref 2, .int x1, .int x2] ((sk_wi hi 3 (Int32.toNatClampNeg s1) x4), sk_hr rr, sk_ks ++ ex) (fun r h' => sk_Go Γ (sk_M Γ m_X0_putEight Q) (0, 0) 19 [some (.ref 2), some (.int x1), some (.int x2), some (.int x3), some (.int x4)] (r.toList ++ []) h')) :
    sk_Go Γ (sk_M Γ m_X0_putEight Q) (0, 0) 10 [some (.ref 2), some (.int x1), some (.int x2), some (.int x3), some (.int x4)] [.int s1, .ref 3] (hi, sk_hr rr, sk_ks ++ ex) := by
  refine go_iload dX0_putEight_10 rfl ?_
  refine go_iast dX0_putEight_12 (show _ = some (1, 384) from rfl) o1 ?_
  refine go_aload_n dX0_putEight_13 rfl ?_
  refine go_iload_n dX0_putEight_14 rfl ?_
  refine go_iload_n dX0_putEight_15 rfl ?_
  refine go_callV (μ := m_X0_judge) (n := 19) (T := TX0) (N := 5) [.int x1, .int x2] dX0_putEight_16 ok_X0_judge ml_X0_36 wx_X0_judge wl_X0_judge (show _ = some (0, 0) from rfl) rfl rfl (Nat.le_of_ble_eq_true rfl) ⟨Nat.le_of_ble_eq_true rfl, Nat.le_of_ble_eq_true rfl⟩ ⟨Nat.le_of_ble_eq_true rfl, Nat.le_of_ble_eq_true rfl⟩ rfl ?_
  exact l1
theorem k_X0_putEight_19 {x1 x2 x3 x4 : Int32} {hi : Nat → Nat → Int32}
    (l1 : Q none (hi, sk_hr rr, sk_ks ++ ex)) :
    sk_Go Γ (sk_M Γ m_X0_putEight Q) (0, 0) 19 [some (.ref 2), some (.int x1), some (.int x2), some (.int x3), some (.int x4)] [] (hi, sk_hr rr, sk_ks ++ ex) := by
  exact go_vret (μ := m_X0_putEight) dX0_putEight_19 rfl (Nat.le_of_ble_eq_true rfl) (Nat.le_of_ble_eq_true rfl) l1
theorem k_X0_putEcho_0 {x1 x2 x3 x4 : Int32} {hi : Nat → Nat → Int32}
    (l1 : sk_Ct Γ m_X0_rowOf [.int x1, .int x2, .int (x3 / 8)] (hi, sk_hr rr, sk_ks ++ ex) (fun r h' => sk_Go Γ (sk_M Γ m_X0_putEcho Q) (0, 0) 9 [some (.ref 2), some (.int x1), some (.int x2), some (.int x3), some (.int x4), none, none] (r.toList ++ []) h')) :
    sk_Go Γ (sk_M Γ m_X0_putEcho Q) (0, 0) 0 [some (.ref 2), some (.int x1), some (.int x2), some (.int x3), some (.int x4), none, none] [] (hi, sk_hr rr, sk_ks ++ ex) := by
  refine go_iload_n dX0_putEcho_0 rfl ?_
  refine go_iload_n dX0_putEcho_1 rfl ?_
  refine go_iload_n dX0_putEcho_2 rfl ?_
  refine go_bipush dX0_putEcho_3 (v := 8) (by decide) ?_
  refine go_idiv dX0_putEcho_5 (by decide) ?_
  refine go_callS (μ := m_X0_rowOf) (n := 9) [.int x1, .int x2, .int (x3 / 8)] dX0_putEcho_6 ok_X0_rowOf ml_X0_28 wx_X0_rowOf rfl (Nat.le_of_ble_eq_true rfl) ⟨Nat.le_of_ble_eq_true rfl, Nat.le_of_ble_eq_true rfl⟩ ⟨Nat.le_of_ble_eq_true rfl, Nat.le_of_ble_eq_true rfl⟩ rfl ?_
  exact l1
theorem k_X0_putEcho_9 {x1 x2 x3 x4 s0 : Int32} {hi : Nat → Nat → Int32}
    (l1 : sk_Ct Γ m_X0_bitsBehind [.int x3] (hi, sk_hr rr, sk_ks ++ ex) (fun r h' => sk_Go Γ (sk_M Γ m_X0_putEcho Q) (0, 0) 15 [some (.ref 2), some (.int x1), some (.int x2), some (.int x3), some (.int x4), some (.int s0), none] (r.toList ++ []) h')) :
    sk_Go Γ (sk_M Γ m_X0_putEcho Q) (0, 0) 9 [some (.ref 2), some (.int x1), some (.int x2), some (.int x3), some (.int x4), none, none] [.int s0] (hi, sk_hr rr, sk_ks ++ ex) := by
  refine go_istore dX0_putEcho_9 (Nat.le_of_ble_eq_true rfl) ?_
  show sk_Go Γ (sk_M Γ m_X0_putEcho Q) (0, 0) _ [some (.ref 2), some (.int x1), some (.int x2), some (.int x3), some (.int x4), some (.int s0), none] [] _
  refine go_iload_n dX0_putEcho_11 rfl ?_
  refine go_callS (μ := m_X0_bitsBehind) (n := 15) [.int x3] dX0_putEcho_12 ok_X0_bitsBehind ml_X0_32 wx_X0_bitsBehind rfl (Nat.le_of_ble_eq_true rfl) ⟨Nat.le_of_ble_eq_true rfl, Nat.le_of_ble_eq_true rfl⟩ ⟨Nat.le_of_ble_eq_true rfl, Nat.le_of_ble_eq_true rfl⟩ rfl ?_
  exact l1
theorem k_X0_putEcho_15 {x1 x2 x3 x4 x5 s0 : Int32} {hi : Nat → Nat → Int32}
    (o1 : vp_in x5 384)
    (l1 : sk_Ct Γ m_X0_judge [.ref 2, .int x1, .int x2] ((sk_wi hi 3 (Int32.toNatClampNeg x5) (((hi 3 (Int32.toNatClampNeg x5)) &&& ((15 <<< (s0 &&& 31)) ^^^ (-1))) ||| (x4 <<< (s0 &&& 31)))), sk_hr rr, sk_ks ++ ex) (fun r h' => sk_Go Γ (sk_M Γ m_X0_putEcho Q) (0, 0) 51 [some (.ref 2), some (.int x1), some (.int x2), some (.int x3), some (.int x4), some (.int x5), some (.int s0)] (r.toList ++ []) h')) :
    sk_Go Γ (sk_M Γ m_X0_putEcho Q) (0, 0) 15 [some (.ref 2), some (.int x1), some (.int x2), some (.int x3), some (.int x4), some (.int x5), none] [.int s0] (hi, sk_hr rr, sk_ks ++ ex) := by
  refine go_istore dX0_putEcho_15 (Nat.le_of_ble_eq_true rfl) ?_
  show sk_Go Γ (sk_M Γ m_X0_putEcho Q) (0, 0) _ [some (.ref 2), some (.int x1), some (.int x2), some (.int x3), some (.int x4), some (.int x5), some (.int s0)] [] _
  refine go_aload_n dX0_putEcho_17 rfl ?_
  refine go_getR dX0_putEcho_18 fl_X0_9 rfl rfl (show _ = some 3 from rfl) ?_
  refine go_iload dX0_putEcho_21 rfl ?_
  refine go_aload_n dX0_putEcho_23 rfl ?_
  refine go_getR dX0_putEcho_24 fl_X0_9 rfl rfl (show _ = some 3 from rfl) ?_
  refine go_iload dX0_putEcho_27 rfl ?_
  refine go_iald dX0_putEcho_29 (show _ = some (1, 384) from rfl) o1 ?_
  refine go_bipush dX0_putEcho_30 (v := 15) (by decide) ?_
  refine go_iload dX0_putEcho_32 rfl ?_
  refine go_ishl dX0_putEcho_34 ?_
  refine go_iconst dX0_putEcho_35 (v := (-1)) (by decide) ?_
  refine go_ixor dX0_putEcho_36 ?_
  refine go_iand dX0_putEcho_37 ?_
  refine go_iload dX0_putEcho_38 rfl ?_
  refine go_iload dX0_putEcho_40 rfl ?_
  refine go_ishl dX0_putEcho_42 ?_
  refine go_ior dX0_putEcho_43 ?_
  refine go_iast dX0_putEcho_44 (show _ = some (1, 384) from rfl) o1 ?_
  refine go_aload_n dX0_putEcho_45 rfl ?_
  refine go_iload_n dX0_putEcho_46 rfl ?_
  refine go_iload_n dX0_putEcho_47 rfl ?_
  refine go_callV (μ := m_X0_judge) (n := 51) (T := TX0) (N := 5) [.int x1, .int x2] dX0_putEcho_48 ok_X0_judge ml_X0_36 wx_X0_judge wl_X0_judge (show _ = some (0, 0) from rfl) rfl rfl (Nat.le_of_ble_eq_true rfl) ⟨Nat.le_of_ble_eq_true rfl, Nat.le_of_ble_eq_true rfl⟩ ⟨Nat.le_of_ble_eq_true rfl, Nat.le_of_ble_eq_true rfl⟩ rfl ?_
  exact l1
theorem k_X0_putEcho_51 {x1 x2 x3 x4 x5 x6 : Int32} {hi : Nat → Nat → Int32}
    (l1 : Q none (hi, sk_hr rr, sk_ks ++ ex)) :
    sk_Go Γ (sk_M Γ m_X0_putEcho Q) (0, 0) 51 [some (.ref 2), some (.int x1), some (.int x2), some (.int x3), some (.int x4), some (.int x5), some (.int x6)] [] (hi, sk_hr rr, sk_ks ++ ex) := by
  exact go_vret (μ := m_X0_putEcho) dX0_putEcho_51 rfl (Nat.le_of_ble_eq_true rfl) (Nat.le_of_ble_eq_true rfl) l1
theorem k_X0_wipe_0 {x1 : Int32} {hi : Nat → Nat → Int32}
    (l1 : sk_Ct Γ m_X0_rowOf [.int x1, .int 0, .int 0] (hi, sk_hr rr, sk_ks ++ ex) (fun r h' => sk_Go Γ (sk_M Γ m_X0_wipe Q) (0, 0) 6 [some (.ref 2), some (.int x1), none, none] (r.toList ++ []) h')) :
    sk_Go Γ (sk_M Γ m_X0_wipe Q) (0, 0) 0 [some (.ref 2), some (.int x1), none, none] [] (hi, sk_hr rr, sk_ks ++ ex) := by
  refine go_iload_n dX0_wipe_0 rfl ?_
  refine go_iconst dX0_wipe_1 (v := 0) (by decide) ?_
  refine go_iconst dX0_wipe_2 (v := 0) (by decide) ?_
  refine go_callS (μ := m_X0_rowOf) (n := 6) [.int x1, .int 0, .int 0] dX0_wipe_3 ok_X0_rowOf ml_X0_28 wx_X0_rowOf rfl (Nat.le_of_ble_eq_true rfl) ⟨Nat.le_of_ble_eq_true rfl, Nat.le_of_ble_eq_true rfl⟩ ⟨Nat.le_of_ble_eq_true rfl, Nat.le_of_ble_eq_true rfl⟩ rfl ?_
  exact l1
theorem k_X0_wipe_6 {x1 s0 : Int32} {hi : Nat → Nat → Int32}
    (l1 : sk_Go Γ (sk_M Γ m_X0_wipe Q) (0, 0) 9 [some (.ref 2), some (.int x1), some (.int s0), some (.int 0)] [] (hi, sk_hr rr, sk_ks ++ ex)) :
    sk_Go Γ (sk_M Γ m_X0_wipe Q) (0, 0) 6 [some (.ref 2), some (.int x1), none, none] [.int s0] (hi, sk_hr rr, sk_ks ++ ex) := by
  refine go_istore_n dX0_wipe_6 (Nat.le_of_ble_eq_true rfl) ?_
  show sk_Go Γ (sk_M Γ m_X0_wipe Q) (0, 0) _ [some (.ref 2), some (.int x1), some (.int s0), none] [] _
  refine go_iconst dX0_wipe_7 (v := 0) (by decide) ?_
  refine go_istore_n dX0_wipe_8 (Nat.le_of_ble_eq_true rfl) ?_
  show sk_Go Γ (sk_M Γ m_X0_wipe Q) (0, 0) _ [some (.ref 2), some (.int x1), some (.int s0), some (.int 0)] [] _
  exact l1
theorem k_X0_wipe_9 {x1 x2 x3 : Int32} {hi : Nat → Nat → Int32}
    (o1 : (96 : Int32) ≤ x3 → vp_in x1 4)
    (l1 : (96 : Int32) ≤ x3 → Q none ((sk_wi hi 4 (Int32.toNatClampNeg x1) 0), sk_hr rr, sk_ks ++ ex))
    (o2 : ¬ (96 : Int32) ≤ x3 → vp_in (x2 + x3) 384)
    (l2 : ¬ (96 : Int32) ≤ x3 → sk_Go Γ (sk_M Γ m_X0_wipe Q) (0, 0) 9 [some (.ref 2), some (.int x1), some (.int x2), some (.int (x3 + 1))] [] ((sk_wi hi 3 (Int32.toNatClampNeg (x2 + x3)) 0), sk_hr rr, sk_ks ++ ex)) :
    sk_Go Γ (sk_M Γ m_X0_wipe Q) (0, 0) 9 [some (.ref 2), some (.int x1), some (.int x2), some (.int x3)] [] (hi, sk_hr rr, sk_ks ++ ex) := by
  refine go_iload_n dX0_wipe_9 rfl ?_
  refine go_bipush dX0_wipe_10 (v := 96) (by decide) ?_
  refine go_icmp_ge (tgt := 30) dX0_wipe_12 (by decide) (fun c1 => ?_) (fun c1 => ?_)
  · refine go_aload_n dX0_wipe_30 rfl ?_
    refine go_getR dX0_wipe_31 fl_X0_15 rfl rfl (show _ = some 4 from rfl) ?_
    refine go_iload_n dX0_wipe_34 rfl ?_
    refine go_iconst dX0_wipe_35 (v := 0) (by decide) ?_
    refine go_iast dX0_wipe_36 (show _ = some (1, 4) from rfl) (o1 c1) ?_
    exact go_vret (μ := m_X0_wipe) dX0_wipe_37 rfl (Nat.le_of_ble_eq_true rfl) (Nat.le_of_ble_eq_true rfl) (l1 c1)
  · refine go_aload_n dX0_wipe_15 rfl ?_
    refine go_getR dX0_wipe_16 fl_X0_9 rfl rfl (show _ = some 3 from rfl) ?_
    refine go_iload_n dX0_wipe_19 rfl ?_
    refine go_iload_n dX0_wipe_20 rfl ?_
    refine go_iadd dX0_wipe_21 ?_
    refine go_iconst dX0_wipe_22 (v := 0) (by decide) ?_
    refine go_iast dX0_wipe_23 (show _ = some (1, 384) from rfl) (o2 c1) ?_
    refine go_iinc (v := x3 + 1) dX0_wipe_24 rfl rfl (Nat.le_of_ble_eq_true rfl) ?_
    show sk_Go Γ (sk_M Γ m_X0_wipe Q) (0, 0) _ [some (.ref 2), some (.int x1), some (.int x2), some (.int (x3 + 1))] [] _
    refine go_goto (tgt := 9) dX0_wipe_27 (by decide) ?_
    exact (l2 c1)
theorem k_X0_setNoise_0 {x1 x2 : Int32} {hi : Nat → Nat → Int32}
    (l1 : sk_Go Γ (sk_M Γ m_X0_setNoise Q) (0, 0) 12 [some (.ref 2), some (.int x1), some (.int x2), some (.int 0), none] [] ((sk_wi (sk_wi hi 2 2 x1) 2 3 x2), sk_hr rr, sk_ks ++ ex)) :
    sk_Go Γ (sk_M Γ m_X0_setNoise Q) (0, 0) 0 [some (.ref 2), some (.int x1), some (.int x2), none, none] [] (hi, sk_hr rr, sk_ks ++ ex) := by
  refine go_aload_n dX0_setNoise_0 rfl ?_
  refine go_iload_n dX0_setNoise_1 rfl ?_
  refine go_putI dX0_setNoise_2 fl_X0_18 rfl rfl ?_
  refine go_aload_n dX0_setNoise_5 rfl ?_
  refine go_iload_n dX0_setNoise_6 rfl ?_
  refine go_putI dX0_setNoise_7 fl_X0_22 rfl rfl ?_
  refine go_iconst dX0_setNoise_10 (v := 0) (by decide) ?_
  refine go_istore_n dX0_setNoise_11 (Nat.le_of_ble_eq_true rfl) ?_
  show sk_Go Γ (sk_M Γ m_X0_setNoise Q) (0, 0) _ [some (.ref 2), some (.int x1), some (.int x2), some (.int 0), none] [] _
  exact l1
theorem k_X0_setNoise_12 {x1 x2 x3 : Int32} {hi : Nat → Nat → Int32}
    (l1 : (4 : Int32) ≤ x3 → Q none (hi, sk_hr rr, sk_ks ++ ex))
    (l2 : ¬ (4 : Int32) ≤ x3 → sk_Go Γ (sk_M Γ m_X0_setNoise Q) (0, 0) 20 [some (.ref 2), some (.int x1), some (.int x2), some (.int x3), some (.int 0)] [] (hi, sk_hr rr, sk_ks ++ ex)) :
    sk_Go Γ (sk_M Γ m_X0_setNoise Q) (0, 0) 12 [some (.ref 2), some (.int x1), some (.int x2), some (.int x3), none] [] (hi, sk_hr rr, sk_ks ++ ex) := by
  refine go_iload_n dX0_setNoise_12 rfl ?_
  refine go_iconst dX0_setNoise_13 (v := 4) (by decide) ?_
  refine go_icmp_ge (tgt := 46) dX0_setNoise_14 (by decide) (fun c1 => ?_) (fun c1 => ?_)
  · exact go_vret (μ := m_X0_setNoise) dX0_setNoise_46 rfl (Nat.le_of_ble_eq_true rfl) (Nat.le_of_ble_eq_true rfl) (l1 c1)
  · refine go_iconst dX0_setNoise_17 (v := 0) (by decide) ?_
    refine go_istore dX0_setNoise_18 (Nat.le_of_ble_eq_true rfl) ?_
    show sk_Go Γ (sk_M Γ m_X0_setNoise Q) (0, 0) _ [some (.ref 2), some (.int x1), some (.int x2), some (.int x3), some (.int 0)] [] _
    exact (l2 c1)
theorem k_X0_setNoise_20 {x1 x2 x3 x4 : Int32} {hi : Nat → Nat → Int32}
    (l1 : (24 : Int32) ≤ x4 → sk_Go Γ (sk_M Γ m_X0_setNoise Q) (0, 0) 12 [some (.ref 2), some (.int x1), some (.int x2), some (.int (x3 + 1)), none] [] (hi, sk_hr rr, sk_ks ++ ex))
    (l2 : ¬ (24 : Int32) ≤ x4 → sk_Ct Γ m_X0_judge [.ref 2, .int x3, .int x4] (hi, sk_hr rr, sk_ks ++ ex) (fun r h' => sk_Go Γ (sk_M Γ m_X0_setNoise Q) (0, 0) 34 [some (.ref 2), some (.int x1), some (.int x2), some (.int x3), some (.int x4)] (r.toList ++ []) h')) :
    sk_Go Γ (sk_M Γ m_X0_setNoise Q) (0, 0) 20 [some (.ref 2), some (.int x1), some (.int x2), some (.int x3), some (.int x4)] [] (hi, sk_hr rr, sk_ks ++ ex) := by
  refine go_iload dX0_setNoise_20 rfl ?_
  refine go_bipush dX0_setNoise_22 (v := 24) (by decide) ?_
  refine go_icmp_ge (tgt := 40) dX0_setNoise_24 (by decide) (fun c1 => ?_) (fun c1 => ?_)
  · refine go_iinc (v := x3 + 1) dX0_setNoise_40 rfl rfl (Nat.le_of_ble_eq_true rfl) ?_
    show sk_Go Γ (sk_M Γ m_X0_setNoise Q) (0, 0) _ [some (.ref 2), some (.int x1), some (.int x2), some (.int (x3 + 1)), some (.int x4)] [] _
    refine go_goto (tgt := 12) dX0_setNoise_43 (by decide) ?_
    exact (go_wk (l1 c1) (show sk_le _ _ from (And.intro rfl (And.intro rfl (And.intro rfl (And.intro rfl trivial))))))
  · refine go_aload_n dX0_setNoise_27 rfl ?_
    refine go_iload_n dX0_setNoise_28 rfl ?_
    refine go_iload dX0_setNoise_29 rfl ?_
    refine go_callV (μ := m_X0_judge) (n := 34) (T := TX0) (N := 5) [.int x3, .int x4] dX0_setNoise_31 ok_X0_judge ml_X0_36 wx_X0_judge wl_X0_judge (show _ = some (0, 0) from rfl) rfl rfl (Nat.le_of_ble_eq_true rfl) ⟨Nat.le_of_ble_eq_true rfl, Nat.le_of_ble_eq_true rfl⟩ ⟨Nat.le_of_ble_eq_true rfl, Nat.le_of_ble_eq_true rfl⟩ rfl ?_
    exact (l2 c1)
theorem k_X0_setNoise_34 {x1 x2 x3 x4 : Int32} {hi : Nat → Nat → Int32}
    (l1 : sk_Go Γ (sk_M Γ m_X0_setNoise Q) (0, 0) 20 [some (.ref 2), some (.int x1), some (.int x2), some (.int x3), some (.int (x4 + 1))] [] (hi, sk_hr rr, sk_ks ++ ex)) :
    sk_Go Γ (sk_M Γ m_X0_setNoise Q) (0, 0) 34 [some (.ref 2), some (.int x1), some (.int x2), some (.int x3), some (.int x4)] [] (hi, sk_hr rr, sk_ks ++ ex) := by
  refine go_iinc (v := x4 + 1) dX0_setNoise_34 rfl rfl (Nat.le_of_ble_eq_true rfl) ?_
  show sk_Go Γ (sk_M Γ m_X0_setNoise Q) (0, 0) _ [some (.ref 2), some (.int x1), some (.int x2), some (.int x3), some (.int (x4 + 1))] [] _
  refine go_goto (tgt := 20) dX0_setNoise_37 (by decide) ?_
  exact l1
theorem k_X0_isBarred_0 {x1 x2 : Int32} {hi : Nat → Nat → Int32}
    (o1 : vp_in x1 4)
    (l1 : ¬ (((Int32.toUInt32 (hi 4 (Int32.toNatClampNeg x1)) >>> (Int32.toUInt32 x2 &&& Int32.toUInt32 31)).toInt32) &&& 1) = (1 : Int32) → Q (some (.int 0)) (hi, sk_hr rr, sk_ks ++ ex))
    (l2 : (((Int32.toUInt32 (hi 4 (Int32.toNatClampNeg x1)) >>> (Int32.toUInt32 x2 &&& Int32.toUInt32 31)).toInt32) &&& 1) = (1 : Int32) → Q (some (.int 1)) (hi, sk_hr rr, sk_ks ++ ex)) :
    sk_Go Γ (sk_M Γ m_X0_isBarred Q) (0, 0) 0 [some (.ref 2), some (.int x1), some (.int x2)] [] (hi, sk_hr rr, sk_ks ++ ex) := by
  refine go_aload_n dX0_isBarred_0 rfl ?_
  refine go_getR dX0_isBarred_1 fl_X0_15 rfl rfl (show _ = some 4 from rfl) ?_
  refine go_iload_n dX0_isBarred_4 rfl ?_
  refine go_iald dX0_isBarred_5 (show _ = some (1, 4) from rfl) o1 ?_
  refine go_iload_n dX0_isBarred_6 rfl ?_
  refine go_iushr dX0_isBarred_7 ?_
  refine go_iconst dX0_isBarred_8 (v := 1) (by decide) ?_
  refine go_iand dX0_isBarred_9 ?_
  refine go_iconst dX0_isBarred_10 (v := 1) (by decide) ?_
  refine go_icmp_ne (tgt := 18) dX0_isBarred_11 (by decide) (fun c1 => ?_) (fun c1 => ?_)
  · refine go_iconst dX0_isBarred_18 (v := 0) (by decide) ?_
    exact go_zret (μ := m_X0_isBarred) dX0_isBarred_19 rfl rfl (Nat.le_of_ble_eq_true rfl) (Nat.le_of_ble_eq_true rfl) (l1 c1)
  · refine go_iconst dX0_isBarred_14 (v := 1) (by decide) ?_
    refine go_goto (tgt := 19) dX0_isBarred_15 (by decide) ?_
    exact go_zret (μ := m_X0_isBarred) dX0_isBarred_19 rfl rfl (Nat.le_of_ble_eq_true rfl) (Nat.le_of_ble_eq_true rfl) (l2 c1)
theorem k_J6_bitCount_0f7a4_0 {x0 : Int32} {hi : Nat → Nat → Int32}
    (l1 : Q (some (.int ((((((((x0 - (((Int32.toUInt32 x0 >>> (Int32.toUInt32 1 &&& Int32.toUInt32 31)).toInt32) &&& 1431655765)) &&& 858993459) + (((Int32.toUInt32 (x0 - (((Int32.toUInt32 x0 >>> (Int32.toUInt32 1 &&& Int32.toUInt32 31)).toInt32) &&& 1431655765)) >>> (Int32.toUInt32 2 &&& Int32.toUInt32 31)).toInt32) &&& 858993459)) + ((Int32.toUInt32 (((x0 - (((Int32.toUInt32 x0 >>> (Int32.toUInt32 1 &&& Int32.toUInt32 31)).toInt32) &&& 1431655765)) &&& 858993459) + (((Int32.toUInt32 (x0 - (((Int32.toUInt32 x0 >>> (Int32.toUInt32 1 &&& Int32.toUInt32 31)).toInt32) &&& 1431655765)) >>> (Int32.toUInt32 2 &&& Int32.toUInt32 31)).toInt32) &&& 858993459)) >>> (Int32.toUInt32 4 &&& Int32.toUInt32 31)).toInt32)) &&& 252645135) + ((Int32.toUInt32 (((((x0 - (((Int32.toUInt32 x0 >>> (Int32.toUInt32 1 &&& Int32.toUInt32 31)).toInt32) &&& 1431655765)) &&& 858993459) + (((Int32.toUInt32 (x0 - (((Int32.toUInt32 x0 >>> (Int32.toUInt32 1 &&& Int32.toUInt32 31)).toInt32) &&& 1431655765)) >>> (Int32.toUInt32 2 &&& Int32.toUInt32 31)).toInt32) &&& 858993459)) + ((Int32.toUInt32 (((x0 - (((Int32.toUInt32 x0 >>> (Int32.toUInt32 1 &&& Int32.toUInt32 31)).toInt32) &&& 1431655765)) &&& 858993459) + (((Int32.toUInt32 (x0 - (((Int32.toUInt32 x0 >>> (Int32.toUInt32 1 &&& Int32.toUInt32 31)).toInt32) &&& 1431655765)) >>> (Int32.toUInt32 2 &&& Int32.toUInt32 31)).toInt32) &&& 858993459)) >>> (Int32.toUInt32 4 &&& Int32.toUInt32 31)).toInt32)) &&& 252645135) >>> (Int32.toUInt32 8 &&& Int32.toUInt32 31)).toInt32)) + ((Int32.toUInt32 ((((((x0 - (((Int32.toUInt32 x0 >>> (Int32.toUInt32 1 &&& Int32.toUInt32 31)).toInt32) &&& 1431655765)) &&& 858993459) + (((Int32.toUInt32 (x0 - (((Int32.toUInt32 x0 >>> (Int32.toUInt32 1 &&& Int32.toUInt32 31)).toInt32) &&& 1431655765)) >>> (Int32.toUInt32 2 &&& Int32.toUInt32 31)).toInt32) &&& 858993459)) + ((Int32.toUInt32 (((x0 - (((Int32.toUInt32 x0 >>> (Int32.toUInt32 1 &&& Int32.toUInt32 31)).toInt32) &&& 1431655765)) &&& 858993459) + (((Int32.toUInt32 (x0 - (((Int32.toUInt32 x0 >>> (Int32.toUInt32 1 &&& Int32.toUInt32 31)).toInt32) &&& 1431655765)) >>> (Int32.toUInt32 2 &&& Int32.toUInt32 31)).toInt32) &&& 858993459)) >>> (Int32.toUInt32 4 &&& Int32.toUInt32 31)).toInt32)) &&& 252645135) + ((Int32.toUInt32 (((((x0 - (((Int32.toUInt32 x0 >>> (Int32.toUInt32 1 &&& Int32.toUInt32 31)).toInt32) &&& 1431655765)) &&& 858993459) + (((Int32.toUInt32 (x0 - (((Int32.toUInt32 x0 >>> (Int32.toUInt32 1 &&& Int32.toUInt32 31)).toInt32) &&& 1431655765)) >>> (Int32.toUInt32 2 &&& Int32.toUInt32 31)).toInt32) &&& 858993459)) + ((Int32.toUInt32 (((x0 - (((Int32.toUInt32 x0 >>> (Int32.toUInt32 1 &&& Int32.toUInt32 31)).toInt32) &&& 1431655765)) &&& 858993459) + (((Int32.toUInt32 (x0 - (((Int32.toUInt32 x0 >>> (Int32.toUInt32 1 &&& Int32.toUInt32 31)).toInt32) &&& 1431655765)) >>> (Int32.toUInt32 2 &&& Int32.toUInt32 31)).toInt32) &&& 858993459)) >>> (Int32.toUInt32 4 &&& Int32.toUInt32 31)).toInt32)) &&& 252645135) >>> (Int32.toUInt32 8 &&& Int32.toUInt32 31)).toInt32)) >>> (Int32.toUInt32 16 &&& Int32.toUInt32 31)).toInt32)) &&& 63))) (hi, sk_hr rr, sk_ks ++ ex)) :
    sk_Go Γ (sk_M Γ m_J6_bitCount_0f7a4 Q) (0, 0) 0 [some (.int x0)] [] (hi, sk_hr rr, sk_ks ++ ex) := by
  refine go_iload_n dJ6_bitCount_0f7a4_0 rfl ?_
  refine go_iload_n dJ6_bitCount_0f7a4_1 rfl ?_
  refine go_iconst dJ6_bitCount_0f7a4_2 (v := 1) (by decide) ?_
  refine go_iushr dJ6_bitCount_0f7a4_3 ?_
  refine go_ldcw dJ6_bitCount_0f7a4_4 kc_J6_265 ?_
  refine go_iand dJ6_bitCount_0f7a4_7 ?_
  refine go_isub dJ6_bitCount_0f7a4_8 ?_
  refine go_istore_n dJ6_bitCount_0f7a4_9 (Nat.le_of_ble_eq_true rfl) ?_
  show sk_Go Γ (sk_M Γ m_J6_bitCount_0f7a4 Q) (0, 0) _ [some (.int (x0 - (((Int32.toUInt32 x0 >>> (Int32.toUInt32 1 &&& Int32.toUInt32 31)).toInt32) &&& 1431655765)))] [] _
  refine go_iload_n dJ6_bitCount_0f7a4_10 rfl ?_
  refine go_ldcw dJ6_bitCount_0f7a4_11 kc_J6_266 ?_
  refine go_iand dJ6_bitCount_0f7a4_14 ?_
  refine go_iload_n dJ6_bitCount_0f7a4_15 rfl ?_
  refine go_iconst dJ6_bitCount_0f7a4_16 (v := 2) (by decide) ?_
  refine go_iushr dJ6_bitCount_0f7a4_17 ?_
  refine go_ldcw dJ6_bitCount_0f7a4_18 kc_J6_266 ?_
  refine go_iand dJ6_bitCount_0f7a4_21 ?_
  refine go_iadd dJ6_bitCount_0f7a4_22 ?_
  refine go_istore_n dJ6_bitCount_0f7a4_23 (Nat.le_of_ble_eq_true rfl) ?_
  show sk_Go Γ (sk_M Γ m_J6_bitCount_0f7a4 Q) (0, 0) _ [some (.int (((x0 - (((Int32.toUInt32 x0 >>> (Int32.toUInt32 1 &&& Int32.toUInt32 31)).toInt32) &&& 1431655765)) &&& 858993459) + (((Int32.toUInt32 (x0 - (((Int32.toUInt32 x0 >>> (Int32.toUInt32 1 &&& Int32.toUInt32 31)).toInt32) &&& 1431655765)) >>> (Int32.toUInt32 2 &&& Int32.toUInt32 31)).toInt32) &&& 858993459)))] [] _
  refine go_iload_n dJ6_bitCount_0f7a4_24 rfl ?_
  refine go_iload_n dJ6_bitCount_0f7a4_25 rfl ?_
  refine go_iconst dJ6_bitCount_0f7a4_26 (v := 4) (by decide) ?_
  refine go_iushr dJ6_bitCount_0f7a4_27 ?_
  refine go_iadd dJ6_bitCount_0f7a4_28 ?_
  refine go_ldcw dJ6_bitCount_0f7a4_29 kc_J6_267 ?_
  refine go_iand dJ6_bitCount_0f7a4_32 ?_
  refine go_istore_n dJ6_bitCount_0f7a4_33 (Nat.le_of_ble_eq_true rfl) ?_
  show sk_Go Γ (sk_M Γ m_J6_bitCount_0f7a4 Q) (0, 0) _ [some (.int (((((x0 - (((Int32.toUInt32 x0 >>> (Int32.toUInt32 1 &&& Int32.toUInt32 31)).toInt32) &&& 1431655765)) &&& 858993459) + (((Int32.toUInt32 (x0 - (((Int32.toUInt32 x0 >>> (Int32.toUInt32 1 &&& Int32.toUInt32 31)).toInt32) &&& 1431655765)) >>> (Int32.toUInt32 2 &&& Int32.toUInt32 31)).toInt32) &&& 858993459)) + ((Int32.toUInt32 (((x0 - (((Int32.toUInt32 x0 >>> (Int32.toUInt32 1 &&& Int32.toUInt32 31)).toInt32) &&& 1431655765)) &&& 858993459) + (((Int32.toUInt32 (x0 - (((Int32.toUInt32 x0 >>> (Int32.toUInt32 1 &&& Int32.toUInt32 31)).toInt32) &&& 1431655765)) >>> (Int32.toUInt32 2 &&& Int32.toUInt32 31)).toInt32) &&& 858993459)) >>> (Int32.toUInt32 4 &&& Int32.toUInt32 31)).toInt32)) &&& 252645135))] [] _
  refine go_iload_n dJ6_bitCount_0f7a4_34 rfl ?_
  refine go_iload_n dJ6_bitCount_0f7a4_35 rfl ?_
  refine go_bipush dJ6_bitCount_0f7a4_36 (v := 8) (by decide) ?_
  refine go_iushr dJ6_bitCount_0f7a4_38 ?_
  refine go_iadd dJ6_bitCount_0f7a4_39 ?_
  refine go_istore_n dJ6_bitCount_0f7a4_40 (Nat.le_of_ble_eq_true rfl) ?_
  show sk_Go Γ (sk_M Γ m_J6_bitCount_0f7a4 Q) (0, 0) _ [some (.int ((((((x0 - (((Int32.toUInt32 x0 >>> (Int32.toUInt32 1 &&& Int32.toUInt32 31)).toInt32) &&& 1431655765)) &&& 858993459) + (((Int32.toUInt32 (x0 - (((Int32.toUInt32 x0 >>> (Int32.toUInt32 1 &&& Int32.toUInt32 31)).toInt32) &&& 1431655765)) >>> (Int32.toUInt32 2 &&& Int32.toUInt32 31)).toInt32) &&& 858993459)) + ((Int32.toUInt32 (((x0 - (((Int32.toUInt32 x0 >>> (Int32.toUInt32 1 &&& Int32.toUInt32 31)).toInt32) &&& 1431655765)) &&& 858993459) + (((Int32.toUInt32 (x0 - (((Int32.toUInt32 x0 >>> (Int32.toUInt32 1 &&& Int32.toUInt32 31)).toInt32) &&& 1431655765)) >>> (Int32.toUInt32 2 &&& Int32.toUInt32 31)).toInt32) &&& 858993459)) >>> (Int32.toUInt32 4 &&& Int32.toUInt32 31)).toInt32)) &&& 252645135) + ((Int32.toUInt32 (((((x0 - (((Int32.toUInt32 x0 >>> (Int32.toUInt32 1 &&& Int32.toUInt32 31)).toInt32) &&& 1431655765)) &&& 858993459) + (((Int32.toUInt32 (x0 - (((Int32.toUInt32 x0 >>> (Int32.toUInt32 1 &&& Int32.toUInt32 31)).toInt32) &&& 1431655765)) >>> (Int32.toUInt32 2 &&& Int32.toUInt32 31)).toInt32) &&& 858993459)) + ((Int32.toUInt32 (((x0 - (((Int32.toUInt32 x0 >>> (Int32.toUInt32 1 &&& Int32.toUInt32 31)).toInt32) &&& 1431655765)) &&& 858993459) + (((Int32.toUInt32 (x0 - (((Int32.toUInt32 x0 >>> (Int32.toUInt32 1 &&& Int32.toUInt32 31)).toInt32) &&& 1431655765)) >>> (Int32.toUInt32 2 &&& Int32.toUInt32 31)).toInt32) &&& 858993459)) >>> (Int32.toUInt32 4 &&& Int32.toUInt32 31)).toInt32)) &&& 252645135) >>> (Int32.toUInt32 8 &&& Int32.toUInt32 31)).toInt32)))] [] _
  refine go_iload_n dJ6_bitCount_0f7a4_41 rfl ?_
  refine go_iload_n dJ6_bitCount_0f7a4_42 rfl ?_
  refine go_bipush dJ6_bitCount_0f7a4_43 (v := 16) (by decide) ?_
  refine go_iushr dJ6_bitCount_0f7a4_45 ?_
  refine go_iadd dJ6_bitCount_0f7a4_46 ?_
  refine go_istore_n dJ6_bitCount_0f7a4_47 (Nat.le_of_ble_eq_true rfl) ?_
  show sk_Go Γ (sk_M Γ m_J6_bitCount_0f7a4 Q) (0, 0) _ [some (.int (((((((x0 - (((Int32.toUInt32 x0 >>> (Int32.toUInt32 1 &&& Int32.toUInt32 31)).toInt32) &&& 1431655765)) &&& 858993459) + (((Int32.toUInt32 (x0 - (((Int32.toUInt32 x0 >>> (Int32.toUInt32 1 &&& Int32.toUInt32 31)).toInt32) &&& 1431655765)) >>> (Int32.toUInt32 2 &&& Int32.toUInt32 31)).toInt32) &&& 858993459)) + ((Int32.toUInt32 (((x0 - (((Int32.toUInt32 x0 >>> (Int32.toUInt32 1 &&& Int32.toUInt32 31)).toInt32) &&& 1431655765)) &&& 858993459) + (((Int32.toUInt32 (x0 - (((Int32.toUInt32 x0 >>> (Int32.toUInt32 1 &&& Int32.toUInt32 31)).toInt32) &&& 1431655765)) >>> (Int32.toUInt32 2 &&& Int32.toUInt32 31)).toInt32) &&& 858993459)) >>> (Int32.toUInt32 4 &&& Int32.toUInt32 31)).toInt32)) &&& 252645135) + ((Int32.toUInt32 (((((x0 - (((Int32.toUInt32 x0 >>> (Int32.toUInt32 1 &&& Int32.toUInt32 31)).toInt32) &&& 1431655765)) &&& 858993459) + (((Int32.toUInt32 (x0 - (((Int32.toUInt32 x0 >>> (Int32.toUInt32 1 &&& Int32.toUInt32 31)).toInt32) &&& 1431655765)) >>> (Int32.toUInt32 2 &&& Int32.toUInt32 31)).toInt32) &&& 858993459)) + ((Int32.toUInt32 (((x0 - (((Int32.toUInt32 x0 >>> (Int32.toUInt32 1 &&& Int32.toUInt32 31)).toInt32) &&& 1431655765)) &&& 858993459) + (((Int32.toUInt32 (x0 - (((Int32.toUInt32 x0 >>> (Int32.toUInt32 1 &&& Int32.toUInt32 31)).toInt32) &&& 1431655765)) >>> (Int32.toUInt32 2 &&& Int32.toUInt32 31)).toInt32) &&& 858993459)) >>> (Int32.toUInt32 4 &&& Int32.toUInt32 31)).toInt32)) &&& 252645135) >>> (Int32.toUInt32 8 &&& Int32.toUInt32 31)).toInt32)) + ((Int32.toUInt32 ((((((x0 - (((Int32.toUInt32 x0 >>> (Int32.toUInt32 1 &&& Int32.toUInt32 31)).toInt32) &&& 1431655765)) &&& 858993459) + (((Int32.toUInt32 (x0 - (((Int32.toUInt32 x0 >>> (Int32.toUInt32 1 &&& Int32.toUInt32 31)).toInt32) &&& 1431655765)) >>> (Int32.toUInt32 2 &&& Int32.toUInt32 31)).toInt32) &&& 858993459)) + ((Int32.toUInt32 (((x0 - (((Int32.toUInt32 x0 >>> (Int32.toUInt32 1 &&& Int32.toUInt32 31)).toInt32) &&& 1431655765)) &&& 858993459) + (((Int32.toUInt32 (x0 - (((Int32.toUInt32 x0 >>> (Int32.toUInt32 1 &&& Int32.toUInt32 31)).toInt32) &&& 1431655765)) >>> (Int32.toUInt32 2 &&& Int32.toUInt32 31)).toInt32) &&& 858993459)) >>> (Int32.toUInt32 4 &&& Int32.toUInt32 31)).toInt32)) &&& 252645135) + ((Int32.toUInt32 (((((x0 - (((Int32.toUInt32 x0 >>> (Int32.toUInt32 1 &&& Int32.toUInt32 31)).toInt32) &&& 1431655765)) &&& 858993459) + (((Int32.toUInt32 (x0 - (((Int32.toUInt32 x0 >>> (Int32.toUInt32 1 &&& Int32.toUInt32 31)).toInt32) &&& 1431655765)) >>> (Int32.toUInt32 2 &&& Int32.toUInt32 31)).toInt32) &&& 858993459)) + ((Int32.toUInt32 (((x0 - (((Int32.toUInt32 x0 >>> (Int32.toUInt32 1 &&& Int32.toUInt32 31)).toInt32) &&& 1431655765)) &&& 858993459) + (((Int32.toUInt32 (x0 - (((Int32.toUInt32 x0 >>> (Int32.toUInt32 1 &&& Int32.toUInt32 31)).toInt32) &&& 1431655765)) >>> (Int32.toUInt32 2 &&& Int32.toUInt32 31)).toInt32) &&& 858993459)) >>> (Int32.toUInt32 4 &&& Int32.toUInt32 31)).toInt32)) &&& 252645135) >>> (Int32.toUInt32 8 &&& Int32.toUInt32 31)).toInt32)) >>> (Int32.toUInt32 16 &&& Int32.toUInt32 31)).toInt32)))] [] _
  refine go_iload_n dJ6_bitCount_0f7a4_48 rfl ?_
  refine go_bipush dJ6_bitCount_0f7a4_49 (v := 63) (by decide) ?_
  refine go_iand dJ6_bitCount_0f7a4_51 ?_
  exact go_iret (μ := m_J6_bitCount_0f7a4) dJ6_bitCount_0f7a4_52 rfl (Nat.le_of_ble_eq_true rfl) (Nat.le_of_ble_eq_true rfl) l1
theorem k_X0_barredTones_0 {x1 : Int32} {hi : Nat → Nat → Int32}
    (o1 : vp_in x1 4)
    (l1 : sk_Ct Γ m_J6_bitCount_0f7a4 [.int (hi 4 (Int32.toNatClampNeg x1))] (hi, sk_hr rr, sk_ks ++ ex) (fun r h' => sk_Go Γ (sk_M Γ m_X0_barredTones Q) (0, 0) 9 [some (.ref 2), some (.int x1)] (r.toList ++ []) h')) :
    sk_Go Γ (sk_M Γ m_X0_barredTones Q) (0, 0) 0 [some (.ref 2), some (.int x1)] [] (hi, sk_hr rr, sk_ks ++ ex) := by
  refine go_aload_n dX0_barredTones_0 rfl ?_
  refine go_getR dX0_barredTones_1 fl_X0_15 rfl rfl (show _ = some 4 from rfl) ?_
  refine go_iload_n dX0_barredTones_4 rfl ?_
  refine go_iald dX0_barredTones_5 (show _ = some (1, 4) from rfl) o1 ?_
  refine go_callS (μ := m_J6_bitCount_0f7a4) (n := 9) [.int (hi 4 (Int32.toNatClampNeg x1))] dX0_barredTones_6 ok_J6_bitCount_0f7a4 ml_X0_43 wx_J6_bitCount_0f7a4 rfl (Nat.le_of_ble_eq_true rfl) ⟨Nat.le_of_ble_eq_true rfl, Nat.le_of_ble_eq_true rfl⟩ ⟨Nat.le_of_ble_eq_true rfl, Nat.le_of_ble_eq_true rfl⟩ rfl ?_
  exact l1
theorem k_X0_barredTones_9 {x1 s0 : Int32} {hi : Nat → Nat → Int32}
    (l1 : Q (some (.int s0)) (hi, sk_hr rr, sk_ks ++ ex)) :
    sk_Go Γ (sk_M Γ m_X0_barredTones Q) (0, 0) 9 [some (.ref 2), some (.int x1)] [.int s0] (hi, sk_hr rr, sk_ks ++ ex) := by
  exact go_iret (μ := m_X0_barredTones) dX0_barredTones_9 rfl (Nat.le_of_ble_eq_true rfl) (Nat.le_of_ble_eq_true rfl) l1
theorem k_X0_heardAt_0 {x1 x2 x3 : Int32} {hi : Nat → Nat → Int32}
    (l1 : (24 : Int32) ≤ x2 → sk_Go Γ (sk_M Γ m_X0_heardAt Q) (0, 0) 26 [some (.ref 2), some (.int x1), some (.int x2), some (.int x3)] [.int 0] (hi, sk_hr rr, sk_ks ++ ex))
    (l2 : ¬ (24 : Int32) ≤ x2 → sk_Ct Γ m_X0_isBarred [.ref 2, .int x1, .int x2] (hi, sk_hr rr, sk_ks ++ ex) (fun r h' => sk_Go Γ (sk_M Γ m_X0_heardAt Q) (0, 0) 12 [some (.ref 2), some (.int x1), some (.int x2), some (.int x3)] (r.toList ++ []) h')) :
    sk_Go Γ (sk_M Γ m_X0_heardAt Q) (0, 0) 0 [some (.ref 2), some (.int x1), some (.int x2), some (.int x3)] [] (hi, sk_hr rr, sk_ks ++ ex) := by
  refine go_iload_n dX0_heardAt_0 rfl ?_
  refine go_bipush dX0_heardAt_1 (v := 24) (by decide) ?_
  refine go_icmp_ge (tgt := 15) dX0_heardAt_3 (by decide) (fun c1 => ?_) (fun c1 => ?_)
  · refine go_iconst dX0_heardAt_15 (v := 0) (by decide) ?_
    refine go_goto (tgt := 26) dX0_heardAt_16 (by decide) ?_
    exact (l1 c1)
  · refine go_aload_n dX0_heardAt_6 rfl ?_
    refine go_iload_n dX0_heardAt_7 rfl ?_
    refine go_iload_n dX0_heardAt_8 rfl ?_
    refine go_callV (μ := m_X0_isBarred) (n := 12) (T := TX0) (N := 5) [.int x1, .int x2] dX0_heardAt_9 ok_X0_isBarred ml_X0_51 wx_X0_isBarred wl_X0_isBarred (show _ = some (0, 0) from rfl) rfl rfl (Nat.le_of_ble_eq_true rfl) ⟨Nat.le_of_ble_eq_true rfl, Nat.le_of_ble_eq_true rfl⟩ ⟨Nat.le_of_ble_eq_true rfl, Nat.le_of_ble_eq_true rfl⟩ rfl ?_
    exact (l2 c1)
theorem k_X0_heardAt_12 {x1 x2 x3 s0 : Int32} {hi : Nat → Nat → Int32}
    (l1 : s0 = (0 : Int32) → sk_Ct Γ m_X0_echoAt [.ref 2, .int x1, .int x2, .int x3] (hi, sk_hr rr, sk_ks ++ ex) (fun r h' => sk_Go Γ (sk_M Γ m_X0_heardAt Q) (0, 0) 26 [some (.ref 2), some (.int x1), some (.int x2), some (.int x3)] (r.toList ++ []) h'))
    (l2 : ¬ s0 = (0 : Int32) → sk_Go Γ (sk_M Γ m_X0_heardAt Q) (0, 0) 26 [some (.ref 2), some (.int x1), some (.int x2), some (.int x3)] [.int 0] (hi, sk_hr rr, sk_ks ++ ex)) :
    sk_Go Γ (sk_M Γ m_X0_heardAt Q) (0, 0) 12 [some (.ref 2), some (.int x1), some (.int x2), some (.int x3)] [.int s0] (hi, sk_hr rr, sk_ks ++ ex) := by
  refine go_if_eq (tgt := 19) dX0_heardAt_12 (by decide) (fun c1 => ?_) (fun c1 => ?_)
  · refine go_aload_n dX0_heardAt_19 rfl ?_
    refine go_iload_n dX0_heardAt_20 rfl ?_
    refine go_iload_n dX0_heardAt_21 rfl ?_
    refine go_iload_n dX0_heardAt_22 rfl ?_
    refine go_callV (μ := m_X0_echoAt) (n := 26) (T := TX0) (N := 5) [.int x1, .int x2, .int x3] dX0_heardAt_23 ok_X0_echoAt ml_X0_40 wx_X0_echoAt wl_X0_echoAt (show _ = some (0, 0) from rfl) rfl rfl (Nat.le_of_ble_eq_true rfl) ⟨Nat.le_of_ble_eq_true rfl, Nat.le_of_ble_eq_true rfl⟩ ⟨Nat.le_of_ble_eq_true rfl, Nat.le_of_ble_eq_true rfl⟩ rfl ?_
    exact (l1 c1)
  · refine go_iconst dX0_heardAt_15 (v := 0) (by decide) ?_
    refine go_goto (tgt := 26) dX0_heardAt_16 (by decide) ?_
    exact (l2 c1)
theorem k_X0_heardAt_26 {x1 x2 x3 s0 : Int32} {hi : Nat → Nat → Int32}
    (l1 : Q (some (.int s0)) (hi, sk_hr rr, sk_ks ++ ex)) :
    sk_Go Γ (sk_M Γ m_X0_heardAt Q) (0, 0) 26 [some (.ref 2), some (.int x1), some (.int x2), some (.int x3)] [.int s0] (hi, sk_hr rr, sk_ks ++ ex) := by
  exact go_iret (μ := m_X0_heardAt) dX0_heardAt_26 rfl (Nat.le_of_ble_eq_true rfl) (Nat.le_of_ble_eq_true rfl) l1
theorem k_X0_worthAt_0 {x1 x2 x3 : Int32} {hi : Nat → Nat → Int32}
    (l1 : sk_Ct Γ m_X0_heardAt [.ref 2, .int x1, .int x2, .int x3] (hi, sk_hr rr, sk_ks ++ ex) (fun r h' => sk_Go Γ (sk_M Γ m_X0_worthAt Q) (0, 0) 7 [some (.ref 2), some (.int x1), some (.int x2), some (.int x3)] (r.toList ++ []) h')) :
    sk_Go Γ (sk_M Γ m_X0_worthAt Q) (0, 0) 0 [some (.ref 2), some (.int x1), some (.int x2), some (.int x3)] [] (hi, sk_hr rr, sk_ks ++ ex) := by
  refine go_aload_n dX0_worthAt_0 rfl ?_
  refine go_iload_n dX0_worthAt_1 rfl ?_
  refine go_iload_n dX0_worthAt_2 rfl ?_
  refine go_iload_n dX0_worthAt_3 rfl ?_
  refine go_callV (μ := m_X0_heardAt) (n := 7) (T := TX0) (N := 5) [.int x1, .int x2, .int x3] dX0_worthAt_4 ok_X0_heardAt ml_X0_48 wx_X0_heardAt wl_X0_heardAt (show _ = some (0, 0) from rfl) rfl rfl (Nat.le_of_ble_eq_true rfl) ⟨Nat.le_of_ble_eq_true rfl, Nat.le_of_ble_eq_true rfl⟩ ⟨Nat.le_of_ble_eq_true rfl, Nat.le_of_ble_eq_true rfl⟩ rfl ?_
  exact l1
theorem k_X0_worthAt_7 {x1 x2 x3 s0 : Int32} {hi : Nat → Nat → Int32}
    (l1 : sk_Ct Γ m_X0_heardAt [.ref 2, .int x1, .int (x2 + (hi 2 4)), .int x3] (hi, sk_hr rr, sk_ks ++ ex) (fun r h' => sk_Go Γ (sk_M Γ m_X0_worthAt Q) (0, 0) 19 [some (.ref 2), some (.int x1), some (.int x2), some (.int x3)] (r.toList ++ [.int s0]) h')) :
    sk_Go Γ (sk_M Γ m_X0_worthAt Q) (0, 0) 7 [some (.ref 2), some (.int x1), some (.int x2), some (.int x3)] [.int s0] (hi, sk_hr rr, sk_ks ++ ex) := by
  refine go_aload_n dX0_worthAt_7 rfl ?_
  refine go_iload_n dX0_worthAt_8 rfl ?_
  refine go_iload_n dX0_worthAt_9 rfl ?_
  refine go_aload_n dX0_worthAt_10 rfl ?_
  refine go_getI dX0_worthAt_11 fl_X0_25 rfl rfl ?_
  refine go_iadd dX0_worthAt_14 ?_
  refine go_iload_n dX0_worthAt_15 rfl ?_
  refine go_callV (μ := m_X0_heardAt) (n := 19) (T := TX0) (N := 5) [.int x1, .int (x2 + (hi 2 4)), .int x3] dX0_worthAt_16 ok_X0_heardAt ml_X0_48 wx_X0_heardAt wl_X0_heardAt (show _ = some (0, 0) from rfl) rfl rfl (Nat.le_of_ble_eq_true rfl) ⟨Nat.le_of_ble_eq_true rfl, Nat.le_of_ble_eq_true rfl⟩ ⟨Nat.le_of_ble_eq_true rfl, Nat.le_of_ble_eq_true rfl⟩ rfl ?_
  exact l1
theorem k_X0_worthAt_19 {x1 x2 x3 s1 s0 : Int32} {hi : Nat → Nat → Int32}
    (l1 : Q (some (.int (s0 + s1))) (hi, sk_hr rr, sk_ks ++ ex)) :
    sk_Go Γ (sk_M Γ m_X0_worthAt Q) (0, 0) 19 [some (.ref 2), some (.int x1), some (.int x2), some (.int x3)] [.int s1, .int s0] (hi, sk_hr rr, sk_ks ++ ex) := by
  refine go_iadd dX0_worthAt_19 ?_
  exact go_iret (μ := m_X0_worthAt) dX0_worthAt_20 rfl (Nat.le_of_ble_eq_true rfl) (Nat.le_of_ble_eq_true rfl) l1
end BLK
