def sk_ue (e : Nat → Nat → Nat → Nat) (b t h v : Nat) : Nat → Nat → Nat → Nat := fun b' t' h' => if b' = b ∧ t' = t ∧ h' = h then v else e b' t' h'
def sk_ub (e : Nat → Nat → Nat → Nat) (b t p : Nat) (x : Int32) : Nat → Nat → Nat → Nat := fun b' t' h' => if b' = b ∧ t' = t ∧ h' / 8 = p then sk_nib x (7 - h' % 8) else e b' t' h'
def sk_u0 (e : Nat → Nat → Nat → Nat) (b : Nat) : Nat → Nat → Nat → Nat := fun b' t' h' => if b' = b then 0 else e b' t' h'
theorem sk_wi_if (hi : Nat → Nat → Int32) (k j i : Nat) (v : Int32) : sk_wi hi k j v k i = if i = j then v else hi k i := by simp [sk_wi, upd]
theorem sk_Cn_e {S : sk_S} {e' : Nat → Nat → Nat → Nat} {hi hi' : Nat → Nat → Int32} {b t m' : Nat} (hC : sk_Cn hi S) (h3 : sk_CE (hi' 3) e') (he : ∀ b' t', ¬ (b' = b ∧ t' = t) → e' b' t' = S.1 b' t') (h4 : ∀ b', b' ≠ b → hi' 4 b' = hi 4 b') (h4b : hi' 4 b = nI m') (hm : m' < 2 ^ 24) (hbits : ∀ j, j < 24 → m'.testBit j = if j = t then decide (S.2.1.2.1 ≤ sk_cn (e' b t) S.2.1.1 32) else sk_bar S b j) (ho : ∀ a, a ≠ 3 → a ≠ 4 → hi' a = hi a) : sk_Cn hi' (e', S.2) := by
  obtain ⟨c1, c2, c3, c4, c5⟩ := hC
  refine ⟨h3, by rw [ho 2 (by decide) (by decide)]; exact c2, fun b' hb' => ?_, by rw [ho 6 (by decide) (by decide)]; exact c4, by rw [ho 7 (by decide) (by decide), ho 8 (by decide) (by decide), ho 9 (by decide) (by decide), ho 10 (by decide) (by decide)]; exact c5⟩
  by_cases hbb : b' = b
  · subst hbb
    refine ⟨m', hm, h4b, fun j hj => ?_⟩
    rw [hbits j hj]
    by_cases hj2 : j = t
    · subst hj2
      rw [if_pos rfl]
      rfl
    · rw [if_neg hj2]
      show decide (S.2.1.2.1 ≤ sk_cn (S.1 b' j) S.2.1.1 32) = decide (S.2.1.2.1 ≤ sk_cn (e' b' j) S.2.1.1 32)
      rw [he b' j (fun z => hj2 z.2)]
  · obtain ⟨m, a1, a2, a3⟩ := c3 b' hb'
    refine ⟨m, a1, by rw [h4 b' hbb]; exact a2, fun j hj => ?_⟩
    rw [a3 j hj]
    show decide (S.2.1.2.1 ≤ sk_cn (S.1 b' j) S.2.1.1 32) = decide (S.2.1.2.1 ≤ sk_cn (e' b' j) S.2.1.1 32)
    rw [he b' j (fun z => hbb z.1)]
theorem sk_Cn_0 {S : sk_S} {hi hi' : Nat → Nat → Int32} (hC : sk_Cn hi S) (ho : ∀ a, 2 ≤ a → a ≤ 10 → hi' a = hi a) : sk_Cn hi' S := by
  unfold sk_Cn sk_C at *
  rw [ho 2 (by decide) (by decide), ho 3 (by decide) (by decide), ho 4 (by decide) (by decide), ho 6 (by decide) (by decide), ho 7 (by decide) (by decide), ho 8 (by decide) (by decide), ho 9 (by decide) (by decide), ho 10 (by decide) (by decide)]
  exact hC
section BOARDS3
variable {Γ : sk_Cx} {Q : Option Value → sk_Hp → Prop} {rr : Nat → Nat → Option Nat} {ex : List (Nat × Nat)} {hi : Nat → Nat → Int32} {S : sk_S}
/-- judge behind a change of one row -/
theorem c_judge2 {b t : Nat} {e' : Nat → Nat → Nat → Nat} {hi0 : Nat → Nat → Int32} (hb : b < 4) (ht : t < 24) (hG : sk_G S) (hC : sk_Cn hi0 S) (h3 : sk_CE (hi 3) e') (he : ∀ b' t', ¬ (b' = b ∧ t' = t) → e' b' t' = S.1 b' t') (ho : ∀ a, a ≠ 3 → hi a = hi0 a)
    (q : ∀ hi', sk_Cn hi' (e', S.2) → (∀ a, a ≠ 3 → a ≠ 4 → hi' a = hi0 a) → Q none (sk_h hi' rr ex)) : sk_Ct Γ m_X0_judge [.ref 2, .int (nI b), .int (nI t)] (sk_h hi rr ex) Q := by
  obtain ⟨m, a1, a2, a3⟩ := hC.2.2.1 b hb
  refine c_judge hb ht (f := e' b t) (fun h hh => h3 b hb t ht h hh) (by rw [ho 2 (by decide)]; exact hC.2.1.1) (by rw [ho 2 (by decide)]; exact hC.2.1.2.1) hG.2.1.2 hG.2.2.1.2 a1 (by rw [ho 4 (by decide)]; exact a2) (fun m' b1 b2 => ?_)
  refine q _ (sk_Cn_e (b := b) (t := t) (m' := m') hC (by rw [sk_wi_o _ _ _ (by decide)]; exact h3) he (fun b' hb' => ?_) (sk_wi_self _ _ _ _) b1 (fun j hj => ?_) (fun a ha3 ha4 => ?_)) (fun a ha3 ha4 => ?_)
  · rw [sk_wi_ne _ _ hb', ho 4 (by decide)]
  · rw [b2 j hj, a3 j hj]
  · rw [sk_wi_o _ _ _ ha4, ho a ha3]
  · rw [sk_wi_o _ _ _ ha4, ho a ha3]
theorem c_putEight {b t p : Nat} {x : Int32} (hb : b < 4) (ht : t < 24) (hp : p < 4) (hG : sk_G S) (hC : sk_Cn hi S)
    (q : ∀ hi', sk_Cn hi' (sk_ub S.1 b t p x, S.2) → (∀ a, a ≠ 3 → a ≠ 4 → hi' a = hi a) → Q none (sk_h hi' rr ex)) : sk_Ct Γ m_X0_putEight [.ref 2, .int (nI b), .int (nI t), .int (nI p), .int x] (sk_h hi rr ex) Q := by
  refine sk_Ct.of ok_X0_putEight.2.2.2 (Nat.le_of_ble_eq_true rfl) (k_X0_putEight_0 (c_rowOf (k_X0_putEight_10 (vp_in_nI (by omega) (by decide)) ?_)))
  rw [nI_clamp (by omega)]
  refine c_judge2 (S := S) hb ht hG hC (fun b' hb' t' ht' h hh => ?_) (fun b' t' hn => ?_) (fun a ha => sk_wi_o _ _ _ ha) (fun hi' c1 c2 => k_X0_putEight_19 (q hi' c1 c2))
  · show sk_nib (sk_wi hi 3 ((b * 24 + t) * 4 + p) x 3 _) _ = sk_ub S.1 b t p x b' t' h
    rw [sk_wi_if]
    unfold sk_ub
    by_cases hc : b' = b ∧ t' = t ∧ h / 8 = p
    · rw [if_pos (by omega), if_pos hc]
    · rw [if_neg (by omega), if_neg hc]
      exact hC.1 b' hb' t' ht' h hh
  · funext h
    unfold sk_ub
    rw [if_neg (fun z => hn ⟨z.1, z.2.1⟩)]
theorem c_putEcho {b t h v : Nat} (hb : b < 4) (ht : t < 24) (hh : h < 32) (hv : v ≤ 9) (hG : sk_G S) (hC : sk_Cn hi S)
    (q : ∀ hi', sk_Cn hi' (sk_ue S.1 b t h v, S.2) → (∀ a, a ≠ 3 → a ≠ 4 → hi' a = hi a) → Q none (sk_h hi' rr ex)) : sk_Ct Γ m_X0_putEcho [.ref 2, .int (nI b), .int (nI t), .int (nI h), .int (nI v)] (sk_h hi rr ex) Q := by
  refine sk_Ct.of ok_X0_putEcho.2.2.2 (Nat.le_of_ble_eq_true rfl) (k_X0_putEcho_0 ?_)
  rw [show (8 : Int32) = nI 8 from rfl, pk_div (by omega) (by decide) (by decide)]
  refine c_rowOf (k_X0_putEcho_9 (c_bits hh (k_X0_putEcho_15 (vp_in_nI (by omega) (by decide)) ?_)))
  rw [nI_clamp (by omega)]
  refine c_judge2 (S := S) hb ht hG hC (fun b' hb' t' ht' h' hh' => ?_) (fun b' t' hn => ?_) (fun a ha => sk_wi_o _ _ _ ha) (fun hi' c1 c2 => k_X0_putEcho_51 (q hi' c1 c2))
  · show sk_nib (sk_wi hi 3 ((b * 24 + t) * 4 + h / 8) _ 3 _) _ = sk_ue S.1 b t h v b' t' h'
    rw [sk_wi_if]
    unfold sk_ue
    by_cases hc : b' = b ∧ t' = t ∧ h' / 8 = h / 8
    · rw [if_pos (by omega), sk_nib_put _ (by omega) (by omega) (by omega)]
      by_cases hd : h' = h
      · rw [if_pos (by omega), if_pos ⟨hc.1, hc.2.1, hd⟩]
      · rw [if_neg (by omega), if_neg (fun z => hd z.2.2), ← hC.1 b' hb' t' ht' h' hh', hc.1, hc.2.1, hc.2.2]
    · rw [if_neg (by omega), if_neg (by rintro ⟨z1, z2, z3⟩; exact hc ⟨z1, z2, by rw [z3]⟩)]
      exact hC.1 b' hb' t' ht' h' hh'
  · funext h'
    unfold sk_ue
    rw [if_neg (fun z => hn ⟨z.1, z.2.1⟩)]
theorem sk_cn_0 (ns : Nat) (hn : 1 ≤ ns) : ∀ n, sk_cn (fun _ => 0) ns n = 0
  | 0 => rfl
  | n + 1 => by unfold sk_cn; rw [sk_cn_0 ns hn n, if_neg (by omega)]
theorem c_wipe {b : Nat} (hb : b < 4) (hG : sk_G S) (hC : sk_Cn hi S)
    (q : ∀ hi', sk_Cn hi' (sk_u0 S.1 b, S.2) → (∀ a, a ≠ 3 → a ≠ 4 → hi' a = hi a) → Q none (sk_h hi' rr ex)) : sk_Ct Γ m_X0_wipe [.ref 2, .int (nI b)] (sk_h hi rr ex) Q := by
  refine sk_Ct.of ok_X0_wipe.2.2.2 (Nat.le_of_ble_eq_true rfl) (k_X0_wipe_0 (c_rowOf (t := 0) (p := 0) (k_X0_wipe_6 ?_)))
  have loop : ∀ n i (hi1 : Nat → Nat → Int32), i + n = 96 → (∀ a, a ≠ 3 → hi1 a = hi a) → (∀ j, hi1 3 j = if b * 96 ≤ j ∧ j < b * 96 + i then 0 else hi 3 j) → sk_Go Γ (sk_M Γ m_X0_wipe Q) (0, 0) 9 [some (.ref 2), some (.int (nI b)), some (.int (nI ((b * 24 + 0) * 4 + 0))), some (.int (nI i))] [] (sk_h hi1 rr ex) := by
    intro n
    induction n with
    | zero =>
      intro i hi1 hh ho h3
      have e : i = 96 := by omega
      subst e
      refine k_X0_wipe_9 (fun _ => vp_in_nI hb (by decide)) (fun _ => ?_) (fun c => absurd (nI_le (Nat.le_refl 96) (by decide)) c) (fun c => absurd (nI_le (Nat.le_refl 96) (by decide)) c)
      rw [nI_clamp (by omega)]
      obtain ⟨c1, c2, c3, c4, c5⟩ := hC
      refine q _ ⟨fun b' hb' t' ht' h hh' => ?_, ?_, fun b' hb' => ?_, ?_, ?_⟩ (fun a ha3 ha4 => by rw [sk_wi_o _ _ _ ha4, ho a ha3])
      · rw [sk_wi_o _ _ _ (by decide), h3]
        show _ = sk_u0 S.1 b b' t' h
        unfold sk_u0
        by_cases hbb : b' = b
        · rw [if_pos (by omega), if_pos hbb]
          unfold sk_nib
          simp
        · rw [if_neg (by omega), if_neg hbb]
          exact c1 b' hb' t' ht' h hh'
      · rw [sk_wi_o _ _ _ (by decide), ho 2 (by decide)]
        exact c2
      · by_cases hbb : b' = b
        · subst hbb
          refine ⟨0, by decide, sk_wi_self _ _ _ _, fun j hj => ?_⟩
          have e2 : (sk_u0 S.1 b') b' j = fun _ => 0 := by funext h; unfold sk_u0; rw [if_pos rfl]
          show _ = decide (S.2.1.2.1 ≤ sk_cn ((sk_u0 S.1 b') b' j) S.2.1.1 32)
          rw [e2, sk_cn_0 _ hG.2.1.1, Nat.zero_testBit]
          have := hG.2.2.1.1
          simp
          omega
        · rw [sk_wi_ne _ _ hbb, ho 4 (by decide)]
          obtain ⟨m, a1, a2, a3⟩ := c3 b' hb'
          refine ⟨m, a1, a2, fun j hj => ?_⟩
          rw [a3 j hj]
          have e2 : (sk_u0 S.1 b) b' j = S.1 b' j := by funext h; unfold sk_u0; rw [if_neg hbb]
          show decide (S.2.1.2.1 ≤ sk_cn (S.1 b' j) S.2.1.1 32) = decide (S.2.1.2.1 ≤ sk_cn ((sk_u0 S.1 b) b' j) S.2.1.1 32)
          rw [e2]
      · rw [sk_wi_o _ _ _ (by decide), ho 6 (by decide)]
        exact c4
      · rw [sk_wi_o _ _ _ (by decide), sk_wi_o _ _ _ (by decide), sk_wi_o _ _ _ (by decide), sk_wi_o _ _ _ (by decide), ho 7 (by decide), ho 8 (by decide), ho 9 (by decide), ho 10 (by decide)]
        exact c5
    | succ n ih =>
      intro i hi1 hh ho h3
      have hn : ¬ (96 : Int32) ≤ nI i := nI_ge (b := 96) (by omega) (by decide)
      refine k_X0_wipe_9 (fun c => absurd c hn) (fun c => absurd c hn) (fun _ => by rw [nI_add]; exact vp_in_nI (by omega) (by decide)) (fun _ => ?_)
      rw [nI_add, nI_clamp (by omega), nI_1]
      refine ih (i + 1) _ (by omega) (fun a ha => by rw [sk_wi_o _ _ _ ha, ho a ha]) (fun j => ?_)
      rw [sk_wi_if]
      by_cases hj : j = (b * 24 + 0) * 4 + 0 + i
      · rw [if_pos hj, if_pos (by omega)]
      · rw [if_neg hj, h3]
        by_cases hk : b * 96 ≤ j ∧ j < b * 96 + i
        · rw [if_pos hk, if_pos (by omega)]
        · rw [if_neg hk, if_neg (by omega)]
  exact loop 96 0 hi (by omega) (fun _ _ => rfl) (fun j => by rw [if_neg (by omega)])
theorem c_setNoise {x y : Nat} (hx : 1 ≤ x ∧ x ≤ 9) (hy : 1 ≤ y ∧ y ≤ 32) (hC : sk_Cn hi S)
    (q : ∀ hi', sk_Cn hi' (S.1, (x, y, S.2.1.2.2), S.2.2) → (∀ a, a ≠ 2 → a ≠ 4 → hi' a = hi a) → Q none (sk_h hi' rr ex)) : sk_Ct Γ m_X0_setNoise [.ref 2, .int (nI x), .int (nI y)] (sk_h hi rr ex) Q := by
  refine sk_Ct.of ok_X0_setNoise.2.2.2 (Nat.le_of_ble_eq_true rfl) (k_X0_setNoise_0 ?_)
  generalize hS' : ((S.1, (x, y, S.2.1.2.2), S.2.2) : sk_S) = S' at q
  have s1 : S'.1 = S.1 := by rw [← hS']
  have s2 : S'.2.1 = (x, y, S.2.1.2.2) := by rw [← hS']
  have s3 : S'.2.2 = S.2.2 := by rw [← hS']
  have bit : ∀ b t, sk_bar S' b t = decide (y ≤ sk_cn (S.1 b t) x 32) := fun b t => by unfold sk_bar; rw [s1, s2]
  obtain ⟨c1, c2, c3, c4, c5⟩ := hC
  -- the state at the heads: rows before b are judged, of row b the tones before t
  have outer : ∀ n b (hi1 : Nat → Nat → Int32), b + n = 4 → (∀ a, a ≠ 2 → a ≠ 4 → hi1 a = hi a) → hi1 2 2 = nI x → hi1 2 3 = nI y → hi1 2 4 = nI S.2.1.2.2 → (∀ b', b' < b → sk_bb (hi1 4 b') (sk_bar S' b')) → (∀ b', b ≤ b' → b' < 4 → ∃ m, m < 2 ^ 24 ∧ hi1 4 b' = nI m) → sk_Go Γ (sk_M Γ m_X0_setNoise Q) (0, 0) 12 [some (.ref 2), some (.int (nI x)), some (.int (nI y)), some (.int (nI b)), none] [] (sk_h hi1 rr ex) := by
    intro n
    induction n with
    | zero =>
      intro b hi1 hb ho h2 h3 h4 hd hr
      have e : b = 4 := by omega
      subst e
      refine k_X0_setNoise_12 (fun _ => q hi1 ?_ ho) (fun c => absurd (nI_le (Nat.le_refl 4) (by decide)) c)
      refine ⟨by rw [ho 3 (by decide) (by decide), s1]; exact c1, by rw [s2]; exact ⟨h2, h3, h4⟩, hd, by rw [ho 6 (by decide) (by decide), s3]; exact c4, by rw [ho 7 (by decide) (by decide), ho 8 (by decide) (by decide), ho 9 (by decide) (by decide), ho 10 (by decide) (by decide), s3]; exact c5⟩
    | succ n ih =>
      intro b hi1 hb ho h2 h3 h4 hd hr
      have hn : ¬ (4 : Int32) ≤ nI b := nI_ge (b := 4) (by omega) (by decide)
      refine k_X0_setNoise_12 (fun c => absurd c hn) (fun _ => ?_)
      obtain ⟨m0, hm0, hm1⟩ := hr b (Nat.le_refl _) (by omega)
      have inner : ∀ k t (hi2 : Nat → Nat → Int32) (m : Nat), t + k = 24 → (∀ a, a ≠ 2 → a ≠ 4 → hi2 a = hi a) → hi2 2 = hi1 2 → (∀ b', b' ≠ b → hi2 4 b' = hi1 4 b') → m < 2 ^ 24 → hi2 4 b = nI m → (∀ j, j < t → m.testBit j = sk_bar S' b j) → sk_Go Γ (sk_M Γ m_X0_setNoise Q) (0, 0) 20 [some (.ref 2), some (.int (nI x)), some (.int (nI y)), some (.int (nI b)), some (.int (nI t))] [] (sk_h hi2 rr ex) := by
        intro k
        induction k with
        | zero =>
          intro t hi2 m ht ho2 h22 h24 hm hmb hdone
          have e : t = 24 := by omega
          subst e
          refine k_X0_setNoise_20 (fun _ => ?_) (fun c => absurd (nI_le (Nat.le_refl 24) (by decide)) c)
          rw [nI_1]
          refine ih (b + 1) hi2 (by omega) ho2 (by rw [h22]; exact h2) (by rw [h22]; exact h3) (by rw [h22]; exact h4) (fun b' hb' => ?_) (fun b' hb1 hb2 => by rw [h24 b' (by omega)]; exact hr b' (by omega) hb2)
          by_cases hbb : b' = b
          · subst hbb
            exact ⟨m, hm, hmb, hdone⟩
          · rw [h24 b' hbb]
            exact hd b' (by omega)
        | succ k ihk =>
          intro t hi2 m ht ho2 h22 h24 hm hmb hdone
          have hn2 : ¬ (24 : Int32) ≤ nI t := nI_ge (b := 24) (by omega) (by decide)
          refine k_X0_setNoise_20 (fun c => absurd c hn2) (fun _ => ?_)
          refine c_judge (by omega) (by omega) (f := S.1 b t) (fun h hh => by rw [ho2 3 (by decide) (by decide)]; exact c1 b (by omega) t (by omega) h hh) (by rw [h22]; exact h2) (by rw [h22]; exact h3) hx.2 hy.2 hm hmb (fun m' d1 d2 => k_X0_setNoise_34 ?_)
          rw [nI_1]
          refine ihk (t + 1) _ m' (by omega) (fun a ha2 ha4 => by rw [sk_wi_o _ _ _ ha4, ho2 a ha2 ha4]) (by rw [sk_wi_o _ _ _ (by decide)]; exact h22) (fun b' hb' => by rw [sk_wi_ne _ _ hb']; exact h24 b' hb') d1 (sk_wi_self _ _ _ _) (fun j hj => ?_)
          rw [d2 j (by omega)]
          by_cases hjt : j = t
          · rw [if_pos hjt, hjt, bit]
          · rw [if_neg hjt]
            exact hdone j (by omega)
      exact inner 24 0 hi1 m0 (by omega) ho rfl (fun _ _ => rfl) hm0 hm1 (fun j hj => by omega)
  refine outer 4 0 _ (by omega) (fun a ha2 ha4 => by rw [sk_wi_o _ _ _ ha2, sk_wi_o _ _ _ ha2]) (by rw [sk_wi_ne _ _ (by decide), sk_wi_self]) (sk_wi_self _ _ _ _) (by rw [sk_wi_ne _ _ (by decide), sk_wi_ne _ _ (by decide)]; exact c2.2.2) (fun b' hb' => by omega) (fun b' _ hb' => ?_)
  rw [sk_wi_o _ _ _ (by decide), sk_wi_o _ _ _ (by decide)]
  obtain ⟨m, a1, a2, -⟩ := c3 b' hb'
  exact ⟨m, a1, a2⟩
end BOARDS3
