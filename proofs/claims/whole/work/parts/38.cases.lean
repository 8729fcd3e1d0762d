/-- what holds between two calls -/
def sk_Inv (hi : Nat → Nat → Int32) (rr : Nat → Nat → Option Nat) (ex : List (Nat × Nat)) (S : sk_S) (K : Nat → Option sk_S) : Prop := sk_Cn hi S ∧ sk_Ca hi S ∧ sk_R0 hi S ∧ sk_G S ∧ sk_IC hi rr ex K ∧ sk_IR hi K
section CASES
variable {Γ : sk_Cx} {P : sk_Hp → Prop} {rr : Nat → Nat → Option Nat} {ex : List (Nat × Nat)} {hi : Nat → Nat → Int32} {S : sk_S} {K : Nat → Option sk_S}
theorem sk_Inv_s {hi1 hi2 : Nat → Nat → Int32} {S' : sk_S} (I : sk_Inv hi rr ex S K) (c1 : sk_Cn hi1 S') (ca : sk_Ca hi1 S') (h20 : ∀ a, 20 ≤ a → hi1 a = hi a) (r2 : sk_R0 hi2 S') (fr : sk_FR hi1 hi2) (g : sk_G S') : sk_Inv hi2 rr ex S' K := by
  obtain ⟨-, -, -, -, ic, ir⟩ := I
  refine ⟨sk_Cn_0 c1 (fun a a1 a2 => fr.1 a (by omega)), sk_Ca_o ca (by rw [fr.1 0 (by omega)]) (fun p p1 p2 => fr.1 p (by omega)), r2, g, sk_IC_o ic (fun a ha => by rw [fr.1 a (by omega), h20 a (by omega)]), sk_IR_o (fun k S' hk hS => ((ic.1 k hk).2 S' hS).1) ir (by rw [fr.2.1, h20 22 (by decide)]) (fun j hj => by rw [fr.2.2 j hj, h20 21 (by decide)])⟩
theorem sk_R0_o {hi1 : Nat → Nat → Int32} (h : sk_R0 hi S) (h20 : ∀ a, 20 ≤ a → hi1 a = hi a) : sk_R0 hi1 S := by
  show sk_R (hi1 21) 0 S
  rw [h20 21 (by decide)]
  exact h
theorem sk_FR_rf : sk_FR hi hi := ⟨fun _ _ => rfl, rfl, fun _ _ => rfl⟩
theorem sk_FH_20 {hi1 : Nat → Nat → Int32} (h : sk_FH hi hi1) : ∀ a, 20 ≤ a → hi1 a = hi a := fun a ha => h a (by omega)
/-- the next states are good -/
theorem sk_G_e {e' : Nat → Nat → Nat → Nat} (hG : sk_G S) (h : ∀ b t h, e' b t h ≤ 9) : sk_G (e', S.2) := ⟨h, hG.2⟩
theorem sk_G_shift {x1 : Int32} (hG : sk_G S) (z : sk_rg x1 1 8) : sk_G (S.1, (S.2.1.1, S.2.1.2.1, sk_n x1), S.2.2) := by
  obtain ⟨g1, g2, g3, g4, g5⟩ := hG
  obtain ⟨e, a, b⟩ := sk_rg_n z (by decide)
  exact ⟨g1, g2, g3, ⟨a, b⟩, g5⟩
theorem sk_G_noise {x1 x2 : Int32} (hG : sk_G S) (z : sk_Pnoise x1 x2) : sk_G (S.1, (sk_n x1, sk_n x2, S.2.1.2.2), S.2.2) := by
  obtain ⟨g1, g2, g3, g4, g5⟩ := hG
  obtain ⟨e, a, b⟩ := sk_rg_n z.1 (by decide)
  obtain ⟨e', a', b'⟩ := sk_rg_n z.2 (by decide)
  exact ⟨g1, ⟨a, b⟩, ⟨a', b'⟩, g4, g5⟩
theorem sk_G_blank {b0 : Nat} (hG : sk_G S) : sk_G (sk_u0 S.1 b0, S.2) := sk_G_e hG (fun b t h => by
  unfold sk_u0
  split
  · omega
  · exact hG.1 b t h)
theorem sk_G_echo {x1 x2 x3 x4 : Int32} (hG : sk_G S) (z : sk_Pecho x1 x2 x3 x4) : sk_G (sk_ue S.1 (sk_n x1) (sk_n x2) (sk_n x3) (sk_n x4), S.2) := sk_G_e hG (fun b t h => by
  obtain ⟨e, a, b'⟩ := sk_rg_n z.2 (by decide)
  unfold sk_ue
  split
  · exact b'
  · exact hG.1 b t h)
theorem sk_G_board {x1 x2 x3 x4 : Int32} (hG : sk_G S) (z : sk_Pboard x1 x2 x3 x4) : sk_G (sk_ub S.1 (sk_n x1) (sk_n x2) (sk_n x3) x4, S.2) := sk_G_e hG (fun b t h => by
  unfold sk_ub
  split
  · exact z.2.2.2 _ (by omega)
  · exact hG.1 b t h)
theorem sk_G_station {x1 x2 x3 : Int32} (hG : sk_G S) (z : sk_Pst S x1 x2 x3) : sk_G (nx_station S x1 x2 x3) := by
  obtain ⟨g1, g2, g3, g4, g5, g6, g7⟩ := hG
  obtain ⟨⟨z1, z2⟩, z3, z4, -⟩ := z
  obtain ⟨-, -, b1⟩ := sk_rg_n z1 (by decide)
  obtain ⟨-, -, b2⟩ := sk_rg_n z2 (by decide)
  obtain ⟨-, -, b3⟩ := sk_rg_n z3 (by decide)
  refine ⟨g1, g2, g3, g4, g5, by show S.2.2.2.1 + 1 ≤ 4; omega, fun i hi => ?_⟩
  have hi : i < S.2.2.2.1 + 1 := hi
  show sk_un S.2.2.2.2.1 S.2.2.2.1 (sk_n x1) i ≤ 200 ∧ sk_un S.2.2.2.2.2.1 S.2.2.2.1 (sk_n x2) i ≤ 200 ∧ sk_un S.2.2.2.2.2.2 S.2.2.2.1 (sk_n x3) i ≤ 999
  unfold sk_un
  by_cases e : i = S.2.2.2.1
  · rw [if_pos e, if_pos e, if_pos e]
    exact ⟨b1, b2, b3⟩
  · rw [if_neg e, if_neg e, if_neg e]
    exact g7 i (by omega)
theorem sk_G_tst {x1 x2 : Int32} (hG : sk_G S) (z : sk_Pts S x1 x2) : sk_G (nx_tst S x1 x2) := by
  obtain ⟨g1, g2, g3, g4, g5, g6, g7⟩ := hG
  obtain ⟨-, z3⟩ := z
  obtain ⟨-, -, b3⟩ := sk_rg_n z3 (by decide)
  refine ⟨g1, g2, g3, g4, g5, g6, fun i hi => ?_⟩
  obtain ⟨a, b, c⟩ := g7 i hi
  refine ⟨a, b, ?_⟩
  show sk_un S.2.2.2.2.2.2 (sk_n x1) (sk_n x2) i ≤ 999
  unfold sk_un
  split
  · exact b3
  · exact c
theorem cs_board {x1 x2 x3 x4 : Int32} (I : sk_Inv hi rr ex S K) (kk : ∀ hi' rr' ex' S' K', sk_Inv hi' rr' ex' S' K' → P (sk_h hi' rr' ex')) : sk_Ct Γ m_X8_board [.ref 0, .int x1, .int x2, .int x3, .int x4] (sk_h hi rr ex) (fun r h1 => ∃ v, r = some (.int v) ∧ ∃ hi1 rr1 ex1, h1 = sk_h hi1 rr1 ex1 ∧ sk_Ct Γ m_X9_board [.ref 20, .int x1, .int x2, .int x3, .int x4] (sk_h hi1 rr1 ex1) (fun r' h' => r' = some (.int v) ∧ P h')) := by
  obtain ⟨hC, hA, hR, hG, -⟩ := id I
  exact cx_board hG hC (fun hp hi1 c1 c5 h20 => ⟨1, rfl, hi1, rr, ex, rfl, cm_board hG (sk_R0_o hR h20) (fun _ hi2 r2 fr => ⟨rfl, kk _ _ _ _ _ (sk_Inv_s I c1 (Or.inl c5) h20 r2 fr (sk_G_board hG hp))⟩) (fun hn => absurd hp hn)⟩) (fun hn => ⟨0, rfl, hi, rr, ex, rfl, cm_board hG hR (fun hp => absurd hp hn) (fun _ => ⟨rfl, kk _ _ _ _ _ I⟩)⟩)
theorem cs_echo {x1 x2 x3 x4 : Int32} (I : sk_Inv hi rr ex S K) (kk : ∀ hi' rr' ex' S' K', sk_Inv hi' rr' ex' S' K' → P (sk_h hi' rr' ex')) : sk_Ct Γ m_X8_echo [.ref 0, .int x1, .int x2, .int x3, .int x4] (sk_h hi rr ex) (fun r h1 => ∃ v, r = some (.int v) ∧ ∃ hi1 rr1 ex1, h1 = sk_h hi1 rr1 ex1 ∧ sk_Ct Γ m_X9_echo [.ref 20, .int x1, .int x2, .int x3, .int x4] (sk_h hi1 rr1 ex1) (fun r' h' => r' = some (.int v) ∧ P h')) := by
  obtain ⟨hC, hA, hR, hG, -⟩ := id I
  exact cx_echo hG hC (fun hp hi1 c1 c5 h20 => ⟨1, rfl, hi1, rr, ex, rfl, cm_echo hG (sk_R0_o hR h20) (fun _ hi2 r2 fr => ⟨rfl, kk _ _ _ _ _ (sk_Inv_s I c1 (Or.inl c5) h20 r2 fr (sk_G_echo hG hp))⟩) (fun hn => absurd hp hn)⟩) (fun hn => ⟨0, rfl, hi, rr, ex, rfl, cm_echo hG hR (fun hp => absurd hp hn) (fun _ => ⟨rfl, kk _ _ _ _ _ I⟩)⟩)
theorem cs_blank {x1 : Int32} (I : sk_Inv hi rr ex S K) (kk : ∀ hi' rr' ex' S' K', sk_Inv hi' rr' ex' S' K' → P (sk_h hi' rr' ex')) : sk_Ct Γ m_X8_blank [.ref 0, .int x1] (sk_h hi rr ex) (fun r h1 => ∃ v, r = some (.int v) ∧ ∃ hi1 rr1 ex1, h1 = sk_h hi1 rr1 ex1 ∧ sk_Ct Γ m_X9_blank [.ref 20, .int x1] (sk_h hi1 rr1 ex1) (fun r' h' => r' = some (.int v) ∧ P h')) := by
  obtain ⟨hC, hA, hR, hG, -⟩ := id I
  exact cx_blank hG hC (fun hp hi1 c1 c5 h20 => ⟨1, rfl, hi1, rr, ex, rfl, cm_blank hG (sk_R0_o hR h20) (fun _ hi2 r2 fr => ⟨rfl, kk _ _ _ _ _ (sk_Inv_s I c1 (Or.inl c5) h20 r2 fr (sk_G_blank hG))⟩) (fun hn => absurd hp hn)⟩) (fun hn => ⟨0, rfl, hi, rr, ex, rfl, cm_blank hG hR (fun hp => absurd hp hn) (fun _ => ⟨rfl, kk _ _ _ _ _ I⟩)⟩)
theorem cs_noise {x1 x2 : Int32} (I : sk_Inv hi rr ex S K) (kk : ∀ hi' rr' ex' S' K', sk_Inv hi' rr' ex' S' K' → P (sk_h hi' rr' ex')) : sk_Ct Γ m_X8_noise [.ref 0, .int x1, .int x2] (sk_h hi rr ex) (fun r h1 => ∃ v, r = some (.int v) ∧ ∃ hi1 rr1 ex1, h1 = sk_h hi1 rr1 ex1 ∧ sk_Ct Γ m_X9_noise [.ref 20, .int x1, .int x2] (sk_h hi1 rr1 ex1) (fun r' h' => r' = some (.int v) ∧ P h')) := by
  obtain ⟨hC, hA, hR, hG, -⟩ := id I
  exact cx_noise hG hC (fun hp hi1 c1 c5 h20 => ⟨1, rfl, hi1, rr, ex, rfl, cm_noise hG (sk_R0_o hR h20) (fun _ hi2 r2 fr => ⟨rfl, kk _ _ _ _ _ (sk_Inv_s I c1 (Or.inl c5) h20 r2 fr (sk_G_noise hG hp))⟩) (fun hn => absurd hp hn)⟩) (fun hn => ⟨0, rfl, hi, rr, ex, rfl, cm_noise hG hR (fun hp => absurd hp hn) (fun _ => ⟨rfl, kk _ _ _ _ _ I⟩)⟩)
theorem cs_shift {x1 : Int32} (I : sk_Inv hi rr ex S K) (kk : ∀ hi' rr' ex' S' K', sk_Inv hi' rr' ex' S' K' → P (sk_h hi' rr' ex')) : sk_Ct Γ m_X8_shift [.ref 0, .int x1] (sk_h hi rr ex) (fun r h1 => ∃ v, r = some (.int v) ∧ ∃ hi1 rr1 ex1, h1 = sk_h hi1 rr1 ex1 ∧ sk_Ct Γ m_X9_shift [.ref 20, .int x1] (sk_h hi1 rr1 ex1) (fun r' h' => r' = some (.int v) ∧ P h')) := by
  obtain ⟨hC, hA, hR, hG, -⟩ := id I
  exact cx_shift hG hC (fun hp hi1 c1 c5 h20 => ⟨1, rfl, hi1, rr, ex, rfl, cm_shift hG (sk_R0_o hR h20) (fun _ hi2 r2 fr => ⟨rfl, kk _ _ _ _ _ (sk_Inv_s I c1 (Or.inl c5) h20 r2 fr (sk_G_shift hG hp))⟩) (fun hn => absurd hp hn)⟩) (fun hn => ⟨0, rfl, hi, rr, ex, rfl, cm_shift hG hR (fun hp => absurd hp hn) (fun _ => ⟨rfl, kk _ _ _ _ _ I⟩)⟩)
theorem cs_tell {x1 x2 x3 x4 : Int32} (I : sk_Inv hi rr ex S K) (kk : ∀ hi' rr' ex' S' K', sk_Inv hi' rr' ex' S' K' → P (sk_h hi' rr' ex')) : sk_Ct Γ m_X8_tell [.ref 0, .int x1, .int x2, .int x3, .int x4] (sk_h hi rr ex) (fun r h1 => ∃ v, r = some (.int v) ∧ ∃ hi1 rr1 ex1, h1 = sk_h hi1 rr1 ex1 ∧ sk_Ct Γ m_X9_tell [.ref 20, .int x1, .int x2, .int x3, .int x4] (sk_h hi1 rr1 ex1) (fun r' h' => r' = some (.int v) ∧ P h')) := by
  obtain ⟨hC, hA, hR, hG, -⟩ := id I
  exact cx_tell hG hC ⟨_, rfl, hi, rr, ex, rfl, cm_tell hG hR ⟨rfl, kk _ _ _ _ _ I⟩⟩
theorem cs_table {x1 x2 x3 : Int32} (I : sk_Inv hi rr ex S K) (kk : ∀ hi' rr' ex' S' K', sk_Inv hi' rr' ex' S' K' → P (sk_h hi' rr' ex')) : sk_Ct Γ m_X8_table [.ref 0, .int x1, .int x2, .int x3] (sk_h hi rr ex) (fun r h1 => ∃ v, r = some (.int v) ∧ ∃ hi1 rr1 ex1, h1 = sk_h hi1 rr1 ex1 ∧ sk_Ct Γ m_X9_table [.ref 20, .int x1, .int x2, .int x3] (sk_h hi1 rr1 ex1) (fun r' h' => r' = some (.int v) ∧ P h')) := by
  obtain ⟨hC, hA, hR, hG, -⟩ := id I
  exact cx_table hG hC ⟨_, rfl, hi, rr, ex, rfl, cm_table hG hR ⟨rfl, kk _ _ _ _ _ I⟩⟩
theorem cs_map {x1 x2 : Int32} (I : sk_Inv hi rr ex S K) (kk : ∀ hi' rr' ex' S' K', sk_Inv hi' rr' ex' S' K' → P (sk_h hi' rr' ex')) : sk_Ct Γ m_X8_map [.ref 0, .int x1, .int x2] (sk_h hi rr ex) (fun r h1 => ∃ v, r = some (.int v) ∧ ∃ hi1 rr1 ex1, h1 = sk_h hi1 rr1 ex1 ∧ sk_Ct Γ m_X9_map [.ref 20, .int x1, .int x2] (sk_h hi1 rr1 ex1) (fun r' h' => r' = some (.int v) ∧ P h')) := by
  obtain ⟨hC, hA, hR, hG, -⟩ := id I
  exact cx_map hG hC ⟨_, rfl, hi, rr, ex, rfl, cm_map hG hR ⟨rfl, kk _ _ _ _ _ I⟩⟩
theorem cs_count {x1 : Int32} (I : sk_Inv hi rr ex S K) (kk : ∀ hi' rr' ex' S' K', sk_Inv hi' rr' ex' S' K' → P (sk_h hi' rr' ex')) : sk_Ct Γ m_X8_count [.ref 0, .int x1] (sk_h hi rr ex) (fun r h1 => ∃ v, r = some (.int v) ∧ ∃ hi1 rr1 ex1, h1 = sk_h hi1 rr1 ex1 ∧ sk_Ct Γ m_X9_count [.ref 20, .int x1] (sk_h hi1 rr1 ex1) (fun r' h' => r' = some (.int v) ∧ P h')) := by
  obtain ⟨hC, hA, hR, hG, -⟩ := id I
  exact cx_count hG hC ⟨_, rfl, hi, rr, ex, rfl, cm_count hG hR ⟨rfl, kk _ _ _ _ _ I⟩⟩
theorem cs_trace {x1 x2 : Int32} (I : sk_Inv hi rr ex S K) (kk : ∀ hi' rr' ex' S' K', sk_Inv hi' rr' ex' S' K' → P (sk_h hi' rr' ex')) : sk_Ct Γ m_X8_trace [.ref 0, .int x1, .int x2] (sk_h hi rr ex) (fun r h1 => ∃ v, r = some (.int v) ∧ ∃ hi1 rr1 ex1, h1 = sk_h hi1 rr1 ex1 ∧ sk_Ct Γ m_X9_trace [.ref 20, .int x1, .int x2] (sk_h hi1 rr1 ex1) (fun r' h' => r' = some (.int v) ∧ P h')) := by
  obtain ⟨hC, hA, hR, hG, -⟩ := id I
  exact cx_trace hG hC hA (fun hi1 ca fh => ⟨_, rfl, hi1, rr, ex, rfl, cm_trace hG (sk_R0_o hR (sk_FH_20 fh)) (fun hi2 fq => ⟨rfl, kk _ _ _ _ _ (sk_Inv_s I (sk_FH_Cn fh hC) ca (sk_FH_20 fh) (sk_FQ_R fq (sk_R0_o hR (sk_FH_20 fh))) (sk_FQ_FR fq) hG)⟩)⟩)
theorem cs_height {x1 x2 : Int32} (I : sk_Inv hi rr ex S K) (kk : ∀ hi' rr' ex' S' K', sk_Inv hi' rr' ex' S' K' → P (sk_h hi' rr' ex')) : sk_Ct Γ m_X8_height [.ref 0, .int x1, .int x2] (sk_h hi rr ex) (fun r h1 => ∃ v, r = some (.int v) ∧ ∃ hi1 rr1 ex1, h1 = sk_h hi1 rr1 ex1 ∧ sk_Ct Γ m_X9_height [.ref 20, .int x1, .int x2] (sk_h hi1 rr1 ex1) (fun r' h' => r' = some (.int v) ∧ P h')) := by
  obtain ⟨hC, hA, hR, hG, -⟩ := id I
  exact cx_height hG hC hA (fun hi1 ca fh => ⟨_, rfl, hi1, rr, ex, rfl, cm_height hG (sk_R0_o hR (sk_FH_20 fh)) (fun hi2 fq => ⟨rfl, kk _ _ _ _ _ (sk_Inv_s I (sk_FH_Cn fh hC) ca (sk_FH_20 fh) (sk_FQ_R fq (sk_R0_o hR (sk_FH_20 fh))) (sk_FQ_FR fq) hG)⟩)⟩)
theorem cs_undone {x1 : Int32} (I : sk_Inv hi rr ex S K) (kk : ∀ hi' rr' ex' S' K', sk_Inv hi' rr' ex' S' K' → P (sk_h hi' rr' ex')) : sk_Ct Γ m_X8_undone [.ref 0, .int x1] (sk_h hi rr ex) (fun r h1 => ∃ v, r = some (.int v) ∧ ∃ hi1 rr1 ex1, h1 = sk_h hi1 rr1 ex1 ∧ sk_Ct Γ m_X9_undone [.ref 20, .int x1] (sk_h hi1 rr1 ex1) (fun r' h' => r' = some (.int v) ∧ P h')) := by
  obtain ⟨hC, hA, hR, hG, -⟩ := id I
  exact cx_undone hG hC hA (fun hi1 r sp ca fh => ⟨r, rfl, hi1, rr, ex, rfl, cm_undone hG (sk_R0_o hR (sk_FH_20 fh)) (fun hi2 r' sp' fq => ⟨by rw [sp_undone_one sp' sp], kk _ _ _ _ _ (sk_Inv_s I (sk_FH_Cn fh hC) ca (sk_FH_20 fh) (sk_FQ_R fq (sk_R0_o hR (sk_FH_20 fh))) (sk_FQ_FR fq) hG)⟩)⟩)
theorem cs_place {x1 x2 x3 : Int32} (I : sk_Inv hi rr ex S K) (kk : ∀ hi' rr' ex' S' K', sk_Inv hi' rr' ex' S' K' → P (sk_h hi' rr' ex')) : sk_Ct Γ m_X8_place [.ref 0, .int x1, .int x2, .int x3] (sk_h hi rr ex) (fun r h1 => ∃ v, r = some (.int v) ∧ ∃ hi1 rr1 ex1, h1 = sk_h hi1 rr1 ex1 ∧ sk_Ct Γ m_X9_place [.ref 20, .int x1, .int x2, .int x3] (sk_h hi1 rr1 ex1) (fun r' h' => r' = some (.int v) ∧ P h')) := by
  obtain ⟨hC, hA, hR, hG, -⟩ := id I
  exact cx_place hG hC hA (fun hi1 r sp ca fh => ⟨r, rfl, hi1, rr, ex, rfl, cm_place hG (sk_R0_o hR (sk_FH_20 fh)) (fun hi2 r' sp' fq => ⟨by rw [sp_place_one sp' sp], kk _ _ _ _ _ (sk_Inv_s I (sk_FH_Cn fh hC) ca (sk_FH_20 fh) (sk_FQ_R fq (sk_R0_o hR (sk_FH_20 fh))) (sk_FQ_FR fq) hG)⟩)⟩)
theorem cs_value {x1 x2 x3 x4 : Int32} (I : sk_Inv hi rr ex S K) (kk : ∀ hi' rr' ex' S' K', sk_Inv hi' rr' ex' S' K' → P (sk_h hi' rr' ex')) : sk_Ct Γ m_X8_value [.ref 0, .int x1, .int x2, .int x3, .int x4] (sk_h hi rr ex) (fun r h1 => ∃ v, r = some (.int v) ∧ ∃ hi1 rr1 ex1, h1 = sk_h hi1 rr1 ex1 ∧ sk_Ct Γ m_X9_value [.ref 20, .int x1, .int x2, .int x3, .int x4] (sk_h hi1 rr1 ex1) (fun r' h' => r' = some (.int v) ∧ P h')) := by
  obtain ⟨hC, hA, hR, hG, -⟩ := id I
  exact cx_value hC (fun hp hi1 c1 h6 => ⟨1, rfl, hi1, rr, ex, rfl, cm_value hG (sk_R0_o hR (fun a ha => h6 a (by omega))) (fun _ hi2 r2 fr => ⟨rfl, kk _ _ _ _ _ (sk_Inv_s I c1 (sk_Ca_w (sk_Ca_o hA (by rw [h6 0 (by decide)]) (fun p p1 p2 => h6 p (by omega)))) (fun a ha => h6 a (by omega)) r2 fr (sk_G_ut hG (fun q hq => by cases hq; exact ⟨(sk_rg_n hp.2.1 (by decide)).2.2, (sk_rg_n hp.2.2 (by decide)).2.2⟩)))⟩) (fun hn => absurd hp hn)⟩) (fun hn => ⟨0, rfl, hi, rr, ex, rfl, cm_value hG hR (fun hp => absurd hp hn) (fun _ => ⟨rfl, kk _ _ _ _ _ I⟩)⟩)
theorem cs_miss {x1 x2 : Int32} (I : sk_Inv hi rr ex S K) (kk : ∀ hi' rr' ex' S' K', sk_Inv hi' rr' ex' S' K' → P (sk_h hi' rr' ex')) : sk_Ct Γ m_X8_miss [.ref 0, .int x1, .int x2] (sk_h hi rr ex) (fun r h1 => ∃ v, r = some (.int v) ∧ ∃ hi1 rr1 ex1, h1 = sk_h hi1 rr1 ex1 ∧ sk_Ct Γ m_X9_miss [.ref 20, .int x1, .int x2] (sk_h hi1 rr1 ex1) (fun r' h' => r' = some (.int v) ∧ P h')) := by
  obtain ⟨hC, hA, hR, hG, -⟩ := id I
  exact cx_miss hC (fun hp hi1 c1 h6 => ⟨1, rfl, hi1, rr, ex, rfl, cm_miss hG (sk_R0_o hR (fun a ha => h6 a (by omega))) (fun _ hi2 r2 fr => ⟨rfl, kk _ _ _ _ _ (sk_Inv_s I c1 (sk_Ca_w (sk_Ca_o hA (by rw [h6 0 (by decide)]) (fun p p1 p2 => h6 p (by omega)))) (fun a ha => h6 a (by omega)) r2 fr (sk_G_ut hG (fun q hq => by cases hq)))⟩) (fun hn => absurd hp hn)⟩) (fun hn => ⟨0, rfl, hi, rr, ex, rfl, cm_miss hG hR (fun hp => absurd hp hn) (fun _ => ⟨rfl, kk _ _ _ _ _ I⟩)⟩)
theorem cs_scale {x1 x2 x3 : Int32} (I : sk_Inv hi rr ex S K) (kk : ∀ hi' rr' ex' S' K', sk_Inv hi' rr' ex' S' K' → P (sk_h hi' rr' ex')) : sk_Ct Γ m_X8_scale [.ref 0, .int x1, .int x2, .int x3] (sk_h hi rr ex) (fun r h1 => ∃ v, r = some (.int v) ∧ ∃ hi1 rr1 ex1, h1 = sk_h hi1 rr1 ex1 ∧ sk_Ct Γ m_X9_scale [.ref 20, .int x1, .int x2, .int x3] (sk_h hi1 rr1 ex1) (fun r' h' => r' = some (.int v) ∧ P h')) := by
  obtain ⟨hC, hA, hR, hG, -⟩ := id I
  exact cx_scale hG hC hA (fun hp hi1 c1 ca h18 => ⟨1, rfl, hi1, rr, ex, rfl, cm_scale hG (sk_R0_o hR (fun a ha => h18 a (by omega))) (fun _ hi2 r2 fr => ⟨rfl, kk _ _ _ _ _ (sk_Inv_s I c1 ca (fun a ha => h18 a (by omega)) r2 fr (sk_G_us hG hp))⟩) (fun hn => absurd hp hn)⟩) (fun hn => ⟨0, rfl, hi, rr, ex, rfl, cm_scale hG hR (fun hp => absurd hp hn) (fun _ => ⟨rfl, kk _ _ _ _ _ I⟩)⟩)
theorem cs_middle {x1 x2 : Int32} (I : sk_Inv hi rr ex S K) (kk : ∀ hi' rr' ex' S' K', sk_Inv hi' rr' ex' S' K' → P (sk_h hi' rr' ex')) : sk_Ct Γ m_X8_middle [.ref 0, .int x1, .int x2] (sk_h hi rr ex) (fun r h1 => ∃ v, r = some (.int v) ∧ ∃ hi1 rr1 ex1, h1 = sk_h hi1 rr1 ex1 ∧ sk_Ct Γ m_X9_middle [.ref 20, .int x1, .int x2] (sk_h hi1 rr1 ex1) (fun r' h' => r' = some (.int v) ∧ P h')) := by
  obtain ⟨hC, hA, hR, hG, -⟩ := id I
  exact cx_middle hG hC (fun hi1 r h19 sp => ⟨r, rfl, hi1, rr, ex, rfl, cm_middle hG (sk_R0_o hR (fun a ha => h19 a (by omega))) (fun r' sp' => ⟨by rw [sp_middle_one sp' sp], kk _ _ _ _ _ (sk_Inv_s I (sk_Cn_0 hC (fun a a1 a2 => h19 a (by omega))) (sk_Ca_o hA (by rw [h19 0 (by decide)]) (fun p p1 p2 => h19 p (by omega))) (fun a ha => h19 a (by omega)) (sk_R0_o hR (fun a ha => h19 a (by omega))) sk_FR_rf hG)⟩)⟩)
theorem cs_hops {x1 x2 x3 x4 : Int32} (I : sk_Inv hi rr ex S K) (kk : ∀ hi' rr' ex' S' K', sk_Inv hi' rr' ex' S' K' → P (sk_h hi' rr' ex')) : sk_Ct Γ m_X8_hops [.ref 0, .int x1, .int x2, .int x3, .int x4] (sk_h hi rr ex) (fun r h1 => ∃ v, r = some (.int v) ∧ ∃ hi1 rr1 ex1, h1 = sk_h hi1 rr1 ex1 ∧ sk_Ct Γ m_X9_hops [.ref 20, .int x1, .int x2, .int x3, .int x4] (sk_h hi1 rr1 ex1) (fun r' h' => r' = some (.int v) ∧ P h')) :=
  cx_hops (fun hp R a1 a2 => ⟨_, rfl, hi, rr, ex, rfl, cm_hops (fun _ R' b1 b2 => ⟨by rw [sk_root_one b1 b2 a1 a2], kk _ _ _ _ _ I⟩) (fun hn => absurd hp hn)⟩) (fun hn => ⟨_, rfl, hi, rr, ex, rfl, cm_hops (fun hp => absurd hp hn) (fun _ => ⟨rfl, kk _ _ _ _ _ I⟩)⟩)
theorem cs_fewest {x1 x2 : Int32} (I : sk_Inv hi rr ex S K) (kk : ∀ hi' rr' ex' S' K', sk_Inv hi' rr' ex' S' K' → P (sk_h hi' rr' ex')) : sk_Ct Γ m_X8_fewest [.ref 0, .int x1, .int x2] (sk_h hi rr ex) (fun r h1 => ∃ v, r = some (.int v) ∧ ∃ hi1 rr1 ex1, h1 = sk_h hi1 rr1 ex1 ∧ sk_Ct Γ m_X9_fewest [.ref 20, .int x1, .int x2] (sk_h hi1 rr1 ex1) (fun r' h' => r' = some (.int v) ∧ P h')) :=
  cx_fewest (fun hp r f => ⟨_, rfl, hi, rr, ex, rfl, cm_fewest (fun _ r' f' => ⟨by rw [sk_fw_one f' f], kk _ _ _ _ _ I⟩) (fun hn => absurd hp hn)⟩) (fun hn => ⟨_, rfl, hi, rr, ex, rfl, cm_fewest (fun hp => absurd hp hn) (fun _ => ⟨rfl, kk _ _ _ _ _ I⟩)⟩)
theorem cs_station {x1 x2 x3 : Int32} (I : sk_Inv hi rr ex S K) (kk : ∀ hi' rr' ex' S' K', sk_Inv hi' rr' ex' S' K' → P (sk_h hi' rr' ex')) : sk_Ct Γ m_X8_station [.ref 0, .int x1, .int x2, .int x3] (sk_h hi rr ex) (fun r h1 => ∃ v, r = some (.int v) ∧ ∃ hi1 rr1 ex1, h1 = sk_h hi1 rr1 ex1 ∧ sk_Ct Γ m_X9_station [.ref 20, .int x1, .int x2, .int x3] (sk_h hi1 rr1 ex1) (fun r' h' => r' = some (.int v) ∧ P h')) := by
  obtain ⟨hC, hA, hR, hG, -⟩ := id I
  exact cx_station hG hC (fun hp hi1 c1 h7 => ⟨_, rfl, hi1, rr, ex, rfl, cm_station hG (sk_R0_o hR (fun a ha => h7 a (by omega) (by omega) (by omega) (by omega))) (fun _ hi2 r2 fr => ⟨rfl, kk _ _ _ _ _ (sk_Inv_s I c1 (sk_Ca_w (sk_Ca_o hA (by rw [h7 0 (by decide) (by decide) (by decide) (by decide)]) (fun p p1 p2 => h7 p (by omega) (by omega) (by omega) (by omega)))) (fun a ha => h7 a (by omega) (by omega) (by omega) (by omega)) r2 fr (sk_G_station hG hp))⟩) (fun hn => absurd hp hn)⟩) (fun hn => ⟨_, rfl, hi, rr, ex, rfl, cm_station hG hR (fun hp => absurd hp hn) (fun _ => ⟨rfl, kk _ _ _ _ _ I⟩)⟩)
theorem cs_tellStation {x1 x2 : Int32} (I : sk_Inv hi rr ex S K) (kk : ∀ hi' rr' ex' S' K', sk_Inv hi' rr' ex' S' K' → P (sk_h hi' rr' ex')) : sk_Ct Γ m_X8_tellStation [.ref 0, .int x1, .int x2] (sk_h hi rr ex) (fun r h1 => ∃ v, r = some (.int v) ∧ ∃ hi1 rr1 ex1, h1 = sk_h hi1 rr1 ex1 ∧ sk_Ct Γ m_X9_tellStation [.ref 20, .int x1, .int x2] (sk_h hi1 rr1 ex1) (fun r' h' => r' = some (.int v) ∧ P h')) := by
  obtain ⟨hC, hA, hR, hG, -⟩ := id I
  exact cx_tellStation hG hC (fun hp hi1 c1 h7 => ⟨_, rfl, hi1, rr, ex, rfl, cm_tellStation hG (sk_R0_o hR (fun a ha => h7 a (by omega))) (fun _ hi2 r2 fr => ⟨rfl, kk _ _ _ _ _ (sk_Inv_s I c1 (sk_Ca_w (sk_Ca_o hA (by rw [h7 0 (by decide)]) (fun p p1 p2 => h7 p (by omega)))) (fun a ha => h7 a (by omega)) r2 fr (sk_G_tst hG hp))⟩) (fun hn => absurd hp hn)⟩) (fun hn => ⟨_, rfl, hi, rr, ex, rfl, cm_tellStation hG hR (fun hp => absurd hp hn) (fun _ => ⟨rfl, kk _ _ _ _ _ I⟩)⟩)
theorem cs_image {x1 : Int32} (I : sk_Inv hi rr ex S K) (kk : ∀ hi' rr' ex' S' K', sk_Inv hi' rr' ex' S' K' → P (sk_h hi' rr' ex')) : sk_Ct Γ m_X8_image [.ref 0, .int x1] (sk_h hi rr ex) (fun r h1 => ∃ v, r = some (.int v) ∧ ∃ hi1 rr1 ex1, h1 = sk_h hi1 rr1 ex1 ∧ sk_Ct Γ m_X9_image [.ref 20, .int x1] (sk_h hi1 rr1 ex1) (fun r' h' => r' = some (.int v) ∧ P h')) := by
  obtain ⟨hC, hA, hR, hG, ic, ir⟩ := id I
  have hg : ∀ k S', k < 3 → K k = some S' → sk_G S' := fun k S' hk hS => ((ic.1 k hk).2 S' hS).1
  refine cx_image hG hC ic (fun z hi1 rr1 ex1 h28 ic1 => ⟨1, rfl, hi1, rr1, ex1, rfl, ?_⟩) (fun hn => ⟨0, rfl, hi, rr, ex, rfl, cm_image hG hR hg ir (fun hp => absurd hp hn) (fun _ => ⟨rfl, kk _ _ _ _ _ I⟩)⟩)
  have hR1 : sk_R0 hi1 S := by
    show sk_R (hi1 21) 0 S
    rw [h28 21 (by decide)]
    exact hR
  have ir1 : sk_IR hi1 K := sk_IR_o hg ir (h28 22 (by decide)) (fun j _ => by rw [h28 21 (by decide)])
  refine cm_image hG hR1 hg ir1 (fun _ hi2 o2 r2 ir2 => ⟨rfl, kk _ _ _ _ _ ⟨sk_Cn_0 hC (fun a a1 a2 => by rw [o2 a (by omega) (by omega), h28 a (by omega)]), sk_Ca_o hA (by rw [o2 0 (by decide) (by decide), h28 0 (by decide)]) (fun p p1 p2 => by rw [o2 p (by omega) (by omega), h28 p (by omega)]), r2, hG, sk_IC_o ic1 (fun a ha => o2 a (by omega) (by omega)), ir2⟩⟩) (fun hn => absurd z hn)
theorem cs_again {x1 : Int32} (I : sk_Inv hi rr ex S K) (kk : ∀ hi' rr' ex' S' K', sk_Inv hi' rr' ex' S' K' → P (sk_h hi' rr' ex')) : sk_Ct Γ m_X8_again [.ref 0, .int x1] (sk_h hi rr ex) (fun r h1 => ∃ v, r = some (.int v) ∧ ∃ hi1 rr1 ex1, h1 = sk_h hi1 rr1 ex1 ∧ sk_Ct Γ m_X9_again [.ref 20, .int x1] (sk_h hi1 rr1 ex1) (fun r' h' => r' = some (.int v) ∧ P h')) := by
  obtain ⟨hC, hA, hR, hG, ic, ir⟩ := id I
  have hg : ∀ k S', k < 3 → K k = some S' → sk_G S' := fun k S' hk hS => ((ic.1 k hk).2 S' hS).1
  refine cx_again hG hC ic (fun S1 hp g1 hi1 c1 c5 h12 => ⟨1, rfl, hi1, rr, ex, rfl, ?_⟩) (fun hn => ⟨0, rfl, hi, rr, ex, rfl, cm_again hg ir (fun S' hp => absurd hp (hn S')) (fun _ => ⟨rfl, kk _ _ _ _ _ I⟩)⟩)
  have ir1 : sk_IR hi1 K := sk_IR_o hg ir (h12 22 (by decide)) (fun j _ => by rw [h12 21 (by decide)])
  refine cm_again hg ir1 (fun S2 hp2 hi2 r2 fr => ?_) (fun hn => absurd hp (hn S1))
  have e : S2 = S1 := Option.some.inj (hp2.2.symm.trans hp.2)
  subst e
  exact ⟨rfl, kk _ _ _ _ _ (sk_Inv_s I c1 (Or.inl c5) (fun a ha => h12 a (by omega)) r2 fr g1)⟩
end CASES
