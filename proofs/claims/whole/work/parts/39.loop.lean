/-! The law's loop: what holds between two calls is kept by every call. -/
section LOOP
variable {Γ : sk_Cx} {n : Nat} {xs : Nat → Int32}
/-- the law's locals -/
abbrev sk_LL (i : Nat) : List (Option Value) := [some (.float 0), some (.ref 0), some (.ref 20), some (.int (nI i))]
theorem lw_sub5 {i : Nat} (hn : n ≤ 2560) (hi : i ≤ 2560) : Int32.ofNat n - 5 < nI i ↔ n < i + 5 := by
  have e : (Int32.ofNat n - 5).toInt = (n : Int) - 5 := by
    rw [Int32.toInt_sub, show (Int32.ofNat n).toInt = (n : Int) from nI_toInt (by omega), show (5 : Int32).toInt = 5 from by decide, Int.bmod_def]
    split <;> omega
  rw [Int32.lt_iff_toInt_lt, e, nI_toInt (by omega)]
  omega
theorem lw_head {i : Nat} {u : Nat × Nat} {h : sk_Hp} (hn : n ≤ 2560) (hi : i ≤ 2560) (kt : n < i + 5 → sk_Go Γ (sk_XL Γ n xs) u 985 (sk_LL i) [] h) (kf : i + 5 ≤ n → sk_Go Γ (sk_XL Γ n xs) u 26 (sk_LL i) [] h) : sk_Go Γ (sk_XL Γ n xs) u 18 (sk_LL i) [] h := by
  refine go_iload_n dL_law_18 rfl ?_
  refine go_aload_x dL_law_19 rfl ?_
  refine go_slen dL_law_20 ?_
  refine go_iconst dL_law_21 (v := 5) (by decide) ?_
  refine go_isub dL_law_22 ?_
  exact go_icmp_gt (tgt := 985) dL_law_23 (by decide) (fun c => kt ((lw_sub5 hn hi).mp c)) (fun c => kf (Nat.le_of_not_lt (fun z => c ((lw_sub5 hn hi).mpr z))))
theorem lw_next {i : Nat} {u : Nat × Nat} {h : sk_Hp} (k : sk_Go Γ (sk_XL Γ n xs) u 18 (sk_LL (i + 5)) [] h) : sk_Go Γ (sk_XL Γ n xs) u 979 (sk_LL i) [] h := by
  refine go_iinc (v := nI (i + 5)) dL_law_979 rfl (by rw [show Int32.ofInt 5 = nI 5 from by decide]; exact nI_add i 5) (show 3 < 4 by decide) ?_
  exact go_goto (tgt := 18) dL_law_982 (by decide) k
theorem lw_call {i : Nat} {u : Nat × Nat} {hi : Nat → Nat → Int32} {rr : Nat → Nat → Option Nat} {ex : List (Nat × Nat)} {S : sk_S} {K : Nat → Option sk_S} (h1 : i + 5 ≤ n) (h2 : n ≤ 2560) (hu : u.1 + 10 ≤ 600000 ∧ u.2 + 1157 ≤ 7302250) (I : sk_Inv hi rr ex S K) (nx : ∀ hi' rr' ex' S' K', sk_Inv hi' rr' ex' S' K' → sk_Go Γ (sk_XL Γ n xs) (u.1 + 10, u.2 + 1157) 979 (sk_LL i) [] (sk_h hi' rr' ex')) : sk_Go Γ (sk_XL Γ n xs) u 26 (sk_LL i) [] (sk_h hi rr ex) := by
  refine go_aload_x dL_law_26 rfl ?_
  refine go_iload_n dL_law_27 rfl ?_
  refine go_sld dL_law_28 (vp_in_nI (show i < n by omega) (by omega)) ?_
  refine go_bipush dL_law_29 (v := 31) (by decide) ?_
  refine go_iand dL_law_31 ?_
  rw [pk_and _ 5 (by decide)]
  have hd : (xs (nI i).toNatClampNeg).toBitVec.toNat % 2 ^ 5 < 32 := Nat.mod_lt _ (by decide)
  generalize (xs (nI i).toNatClampNeg).toBitVec.toNat % 2 ^ 5 = d at hd ⊢
  match d, hd with
  | 0, _ => exact go_tin (off := 108) (tgt := 140) dL_law_32 (by decide) (by decide) (by decide) (by decide) (lc_0 h1 h2 hu (cs_board (P := fun h' => sk_Go Γ (sk_XL Γ n xs) (u.1 + 10, u.2 + 1157) 979 (sk_LL i) [] h') I nx))
  | 1, _ => exact go_tin (off := 161) (tgt := 193) dL_law_32 (by decide) (by decide) (by decide) (by decide) (lc_1 h1 h2 hu (cs_echo (P := fun h' => sk_Go Γ (sk_XL Γ n xs) (u.1 + 10, u.2 + 1157) 979 (sk_LL i) [] h') I nx))
  | 2, _ => exact go_tin (off := 214) (tgt := 246) dL_law_32 (by decide) (by decide) (by decide) (by decide) (lc_2 h1 h2 hu (cs_blank (P := fun h' => sk_Go Γ (sk_XL Γ n xs) (u.1 + 10, u.2 + 1157) 979 (sk_LL i) [] h') I nx))
  | 3, _ => exact go_tin (off := 237) (tgt := 269) dL_law_32 (by decide) (by decide) (by decide) (by decide) (lc_3 h1 h2 hu (cs_noise (P := fun h' => sk_Go Γ (sk_XL Γ n xs) (u.1 + 10, u.2 + 1157) 979 (sk_LL i) [] h') I nx))
  | 4, _ => exact go_tin (off := 270) (tgt := 302) dL_law_32 (by decide) (by decide) (by decide) (by decide) (lc_4 h1 h2 hu (cs_shift (P := fun h' => sk_Go Γ (sk_XL Γ n xs) (u.1 + 10, u.2 + 1157) 979 (sk_LL i) [] h') I nx))
  | 5, _ => exact go_tin (off := 293) (tgt := 325) dL_law_32 (by decide) (by decide) (by decide) (by decide) (lc_5 h1 h2 hu (cs_tell (P := fun h' => sk_Go Γ (sk_XL Γ n xs) (u.1 + 10, u.2 + 1157) 979 (sk_LL i) [] h') I nx))
  | 6, _ => exact go_tin (off := 346) (tgt := 378) dL_law_32 (by decide) (by decide) (by decide) (by decide) (lc_6 h1 h2 hu (cs_trace (P := fun h' => sk_Go Γ (sk_XL Γ n xs) (u.1 + 10, u.2 + 1157) 979 (sk_LL i) [] h') I nx))
  | 7, _ => exact go_tin (off := 379) (tgt := 411) dL_law_32 (by decide) (by decide) (by decide) (by decide) (lc_7 h1 h2 hu (cs_height (P := fun h' => sk_Go Γ (sk_XL Γ n xs) (u.1 + 10, u.2 + 1157) 979 (sk_LL i) [] h') I nx))
  | 8, _ => exact go_tin (off := 412) (tgt := 444) dL_law_32 (by decide) (by decide) (by decide) (by decide) (lc_8 h1 h2 hu (cs_undone (P := fun h' => sk_Go Γ (sk_XL Γ n xs) (u.1 + 10, u.2 + 1157) 979 (sk_LL i) [] h') I nx))
  | 9, _ => exact go_tin (off := 435) (tgt := 467) dL_law_32 (by decide) (by decide) (by decide) (by decide) (lc_9 h1 h2 hu (cs_place (P := fun h' => sk_Go Γ (sk_XL Γ n xs) (u.1 + 10, u.2 + 1157) 979 (sk_LL i) [] h') I nx))
  | 10, _ => exact go_tin (off := 478) (tgt := 510) dL_law_32 (by decide) (by decide) (by decide) (by decide) (lc_10 h1 h2 hu (cs_value (P := fun h' => sk_Go Γ (sk_XL Γ n xs) (u.1 + 10, u.2 + 1157) 979 (sk_LL i) [] h') I nx))
  | 11, _ => exact go_tin (off := 531) (tgt := 563) dL_law_32 (by decide) (by decide) (by decide) (by decide) (lc_11 h1 h2 hu (cs_scale (P := fun h' => sk_Go Γ (sk_XL Γ n xs) (u.1 + 10, u.2 + 1157) 979 (sk_LL i) [] h') I nx))
  | 12, _ => exact go_tin (off := 574) (tgt := 606) dL_law_32 (by decide) (by decide) (by decide) (by decide) (lc_12 h1 h2 hu (cs_miss (P := fun h' => sk_Go Γ (sk_XL Γ n xs) (u.1 + 10, u.2 + 1157) 979 (sk_LL i) [] h') I nx))
  | 13, _ => exact go_tin (off := 607) (tgt := 639) dL_law_32 (by decide) (by decide) (by decide) (by decide) (lc_13 h1 h2 hu (cs_table (P := fun h' => sk_Go Γ (sk_XL Γ n xs) (u.1 + 10, u.2 + 1157) 979 (sk_LL i) [] h') I nx))
  | 14, _ => exact go_tin (off := 650) (tgt := 682) dL_law_32 (by decide) (by decide) (by decide) (by decide) (lc_14 h1 h2 hu (cs_middle (P := fun h' => sk_Go Γ (sk_XL Γ n xs) (u.1 + 10, u.2 + 1157) 979 (sk_LL i) [] h') I nx))
  | 15, _ => exact go_tin (off := 683) (tgt := 715) dL_law_32 (by decide) (by decide) (by decide) (by decide) (lc_15 h1 h2 hu (cs_hops (P := fun h' => sk_Go Γ (sk_XL Γ n xs) (u.1 + 10, u.2 + 1157) 979 (sk_LL i) [] h') I nx))
  | 16, _ => exact go_tin (off := 736) (tgt := 768) dL_law_32 (by decide) (by decide) (by decide) (by decide) (lc_16 h1 h2 hu (cs_fewest (P := fun h' => sk_Go Γ (sk_XL Γ n xs) (u.1 + 10, u.2 + 1157) 979 (sk_LL i) [] h') I nx))
  | 17, _ => exact go_tin (off := 769) (tgt := 801) dL_law_32 (by decide) (by decide) (by decide) (by decide) (lc_17 h1 h2 hu (cs_station (P := fun h' => sk_Go Γ (sk_XL Γ n xs) (u.1 + 10, u.2 + 1157) 979 (sk_LL i) [] h') I nx))
  | 18, _ => exact go_tin (off := 812) (tgt := 844) dL_law_32 (by decide) (by decide) (by decide) (by decide) (lc_18 h1 h2 hu (cs_tellStation (P := fun h' => sk_Go Γ (sk_XL Γ n xs) (u.1 + 10, u.2 + 1157) 979 (sk_LL i) [] h') I nx))
  | 19, _ => exact go_tin (off := 845) (tgt := 877) dL_law_32 (by decide) (by decide) (by decide) (by decide) (lc_19 h1 h2 hu (cs_map (P := fun h' => sk_Go Γ (sk_XL Γ n xs) (u.1 + 10, u.2 + 1157) 979 (sk_LL i) [] h') I nx))
  | 20, _ => exact go_tin (off := 878) (tgt := 910) dL_law_32 (by decide) (by decide) (by decide) (by decide) (lc_20 h1 h2 hu (cs_count (P := fun h' => sk_Go Γ (sk_XL Γ n xs) (u.1 + 10, u.2 + 1157) 979 (sk_LL i) [] h') I nx))
  | 21, _ => exact go_tin (off := 901) (tgt := 933) dL_law_32 (by decide) (by decide) (by decide) (by decide) (lc_21 h1 h2 hu (cs_image (P := fun h' => sk_Go Γ (sk_XL Γ n xs) (u.1 + 10, u.2 + 1157) 979 (sk_LL i) [] h') I nx))
  | 22, _ => exact go_tin (off := 924) (tgt := 956) dL_law_32 (by decide) (by decide) (by decide) (by decide) (lc_22 h1 h2 hu (cs_again (P := fun h' => sk_Go Γ (sk_XL Γ n xs) (u.1 + 10, u.2 + 1157) 979 (sk_LL i) [] h') I nx))
  | d + 23, hd => exact go_tout (tgt := 979) dL_law_32 (Or.inr (by rw [nI_toInt (by omega)]; omega)) (by decide) (go_lwid (u' := (u.1 + 10, u.2 + 1157)) (Nat.le_add_right _ _) (Nat.le_add_right _ _) (nx _ _ _ _ _ I))
theorem lw_loop (hn : n ≤ 2560) : ∀ (k i : Nat) (u : Nat × Nat) (hi : Nat → Nat → Int32) (rr : Nat → Nat → Option Nat) (ex : List (Nat × Nat)) (S : sk_S) (K : Nat → Option sk_S), i ≤ 2560 → n < i + 5 * k + 5 → u.1 + 10 * k ≤ 600000 → u.2 + 1157 * k ≤ 7302250 → sk_Inv hi rr ex S K → sk_Go Γ (sk_XL Γ n xs) u 18 (sk_LL i) [] (sk_h hi rr ex) := by
  intro k
  induction k with
  | zero =>
    intro i u hi rr ex S K h1 h2 h3 h4 I
    exact lw_head hn h1 (fun _ => go_iconst dL_law_985 (v := 1) (by decide) (go_lend dL_law_986 (by omega) (by omega))) (fun z => absurd z (by omega))
  | succ k ih =>
    intro i u hi rr ex S K h1 h2 h3 h4 I
    refine lw_head hn h1 (fun _ => go_iconst dL_law_985 (v := 1) (by decide) (go_lend dL_law_986 (by omega) (by omega))) (fun z => ?_)
    have w1 : u.1 + 10 ≤ 600000 := Nat.le_trans (Nat.add_le_add_left (Nat.le_mul_of_pos_right 10 (Nat.succ_pos k)) u.1) h3
    have w2 : u.2 + 1157 ≤ 7302250 := Nat.le_trans (Nat.add_le_add_left (Nat.le_mul_of_pos_right 1157 (Nat.succ_pos k)) u.2) h4
    have w3 : u.1 + 10 + 10 * k ≤ 600000 := by rw [Nat.mul_succ] at h3; omega
    have w4 : u.2 + 1157 + 1157 * k ≤ 7302250 := by rw [Nat.mul_succ] at h4; omega
    exact lw_call z hn ⟨w1, w2⟩ I (fun hi' rr' ex' S' K' I' => lw_next (ih (i + 5) _ hi' rr' ex' S' K' (by omega) (by omega) w3 w4 I'))
end LOOP
