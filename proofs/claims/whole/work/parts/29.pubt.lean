section PUBT
variable {Γ : sk_Cx} {Q : Option Value → sk_Hp → Prop} {rr : Nat → Nat → Option Nat} {ex : List (Nat × Nat)} {hi : Nat → Nat → Int32} {S : sk_S}
/-- what the class holds of a trace is that of the board it names -/
def sk_Ca (hi : Nat → Nat → Int32) (S : sk_S) : Prop := hi 0 5 = -1 ∨ ∃ b, b < 4 ∧ hi 0 5 = nI b ∧ sk_CF hi S b ∧ sk_CU hi S b
/-- only what the class holds of a trace has changed -/
def sk_FH (hi hi' : Nat → Nat → Int32) : Prop := ∀ p, (1 ≤ p ∧ p < 12) ∨ 17 < p → hi' p = hi p
theorem sk_CU_o {hi' : Nat → Nat → Int32} {b : Nat} (hU : sk_CU hi S b) (h16 : hi' 16 = hi 16) (h17 : hi' 17 = hi 17) : sk_CU hi' S b := by
  unfold sk_CU at *
  rw [h16, h17]
  exact hU
theorem sk_Ca_o {hi' : Nat → Nat → Int32} (h : sk_Ca hi S) (h0 : hi' 0 5 = hi 0 5) (ho : ∀ p, 12 ≤ p → p ≤ 17 → hi' p = hi p) : sk_Ca hi' S := by
  rcases h with h | ⟨b, h1, h2, h3, h4⟩
  · exact Or.inl (h0.trans h)
  · exact Or.inr ⟨b, h1, h0.trans h2, sk_CF_o h3 (ho 12 (by decide) (by decide)) (ho 15 (by decide) (by decide)), sk_CU_o h4 (ho 16 (by decide) (by decide)) (ho 17 (by decide) (by decide))⟩
theorem c_hasTrace {x1 : Int32} (hG : sk_G S) (hC : sk_Cn hi S) (hA : sk_Ca hi S)
    (q1 : ∀ hi' b c, b < 4 → x1 = nI b → (sk_T S b).2 = some c → sk_CF hi' S b → sk_CU hi' S b → sk_Ca hi' S → sk_FH hi hi' → Q (some (.int 1)) (sk_h hi' rr ex))
    (q0 : ∀ hi', (∀ b, b < 4 → x1 = nI b → (sk_T S b).2 = none) → sk_Ca hi' S → sk_FH hi hi' → Q (some (.int 0)) (sk_h hi' rr ex)) : sk_Ct Γ m_X8_hasTrace [.ref 0, .int x1] (sk_h hi rr ex) Q := by
  refine sk_Ct.of ok_X8_hasTrace.2.2.2 (Nat.le_of_ble_eq_true rfl) (k_X8_hasTrace_0 ?_)
  have fin : ∀ hi' b, b < 4 → x1 = nI b → hi' 0 5 = nI b → sk_CF hi' S b → sk_CU hi' S b → sk_FH hi hi' → sk_Ct Γ m_X6_isFound [.ref 12] (sk_h hi' rr ex) (fun r h' => sk_Go Γ (sk_M Γ m_X8_hasTrace Q) (0, 0) 55 [some (.ref 0), some (.int x1)] (r.toList ++ []) h') := fun hi' b hb hx h5 hF hU ho => by
    have hs := hF.1.2
    cases hc : (sk_T S b).2 with
    | none =>
      rw [hc] at hs
      refine c_isFound (fun _ => k_X8_hasTrace_55 rfl (q0 hi' (fun b' hb' hx' => ?_) (Or.inr ⟨b, hb, h5, hF, hU⟩) ho)) (fun z => absurd hs.1 z)
      have : b = b' := (nI_eq (by omega) (by omega)).mp (hx.symm.trans hx')
      subst this
      exact hc
    | some c =>
      rw [hc] at hs
      obtain ⟨t1, t2⟩ := sk_T_ok hG hc
      exact c_isFound (fun z => absurd z (by rw [hs.1]; exact sk_nm1 (by omega))) (fun _ => k_X8_hasTrace_55 rfl (q1 hi' b c hb hx hc hF hU (Or.inr ⟨b, hb, h5, hF, hU⟩) ho))
  refine c_X8_isBoard (fun z => ?_) (fun z => k_X8_hasTrace_4 (fun c => absurd rfl c) (fun c => absurd rfl c) (fun _ => q0 hi (fun b hb hx => absurd ⟨b, Nat.zero_le b, by omega, hx⟩ z) hA (fun _ _ => rfl)))
  obtain ⟨b, -, hb, hx⟩ := z
  have hb : b < 4 := by omega
  refine k_X8_hasTrace_4 (fun _ z => ?_) (fun _ z => ?_) (fun c => absurd c sk_n10)
  · rcases hA with h | ⟨b', h1, h2, h3, h4⟩
    · rw [h, hx] at z
      exact absurd z.symm (sk_nm1 (by omega))
    · have : b = b' := by
        rw [h2, hx] at z
        exact ((nI_eq (by omega) (by omega)).mp z).symm
      subst this
      exact fin hi b hb hx h2 h3 h4 (fun _ _ => rfl)
  · subst hx
    refine c_findT hG hC hb (fun hi1 f1 o1 => k_X8_hasTrace_32 (c_undo hG f1 (fun hi2 u2 o2 => k_X8_hasTrace_43 ?_)))
    refine fin _ b hb rfl (sk_wi_self _ _ _ _) (sk_CF_o f1 ?_ ?_) (sk_CU_o u2 ?_ ?_) (fun p hp => ?_)
    · rw [sk_wi_o _ _ _ (by decide), o2 12 (by decide) (by decide)]
    · rw [sk_wi_o _ _ _ (by decide), o2 15 (by decide) (by decide)]
    · rw [sk_wi_o _ _ _ (by decide)]
    · rw [sk_wi_o _ _ _ (by decide)]
    · rw [sk_wi_o _ _ _ (by omega), o2 p (by omega) (by omega), o1 p (by omega)]
theorem c_lastLetter {b e : Nat} (hC : sk_Cn hi S) (hb : b < 4) (he : e ≤ 23) (h5 : hi 12 5 = nI e) (q : Q (some (.int (nI (sk_tlt S b e)))) (sk_h hi rr ex)) : sk_Ct Γ m_X8_lastLetter [.ref 0, .int (nI b)] (sk_h hi rr ex) Q := by
  unfold sk_tlt at q
  have h23 : (24 : Int32) ≤ hi 12 5 + 1 ↔ e = 23 := by
    rw [h5, nI_1]
    have := nI_leI (a := 24) (b := e + 1) (by decide) (by omega)
    exact ⟨fun z => by have := this.mp z; omega, fun z => this.mpr (by omega)⟩
  refine sk_Ct.of ok_X8_lastLetter.2.2.2 (Nat.le_of_ble_eq_true rfl) (k_X8_lastLetter_0 (fun c => ?_) (fun c => ?_))
  · rw [if_pos (Or.inl (h23.mp c))] at q
    exact q
  · rw [h23] at c
    rw [h5, nI_1]
    refine c_isBarred hb (by omega) (hC.2.2.1 b hb) (fun p => k_X8_lastLetter_28 (fun c => absurd c sk_n10) (fun _ => ?_)) (fun p => k_X8_lastLetter_28 (fun _ => ?_) (fun c => absurd rfl c))
    · rw [if_pos (Or.inr p)] at q
      exact q
    · rw [if_neg (by rintro (z | z); exact c z; rw [p] at z; cases z)] at q
      exact q
noncomputable def vl_trace (S : sk_S) (x1 x2 : Int32) : Int32 := sk_if (sk_rg x1 0 3) (match (sk_T S (sk_n x1)).2 with
  | none => -1
  | some c => if x2 = 0 then sI (sk_T S (sk_n x1)).1 else if x2 = 1 then nI c.1 else if x2 = 2 then nI c.2.1 else if x2 = 3 then nI (sk_tlt S (sk_n x1) c.2.1) else -1) (-1)
theorem sk_vt_n {x1 x2 : Int32} (h : ∀ b, b < 4 → x1 = nI b → (sk_T S b).2 = none) : vl_trace S x1 x2 = -1 := by
  unfold vl_trace
  by_cases z : sk_rg x1 0 3
  · obtain ⟨e, a, c⟩ := sk_rg_n z (by decide)
    rw [sk_if_t z, h _ (by omega) e]
  · rw [sk_if_f z]
theorem sk_vt_s {b : Nat} {x2 : Int32} {c : Nat × Nat × Nat} (hb : b < 4) (hc : (sk_T S b).2 = some c) : vl_trace S (nI b) x2 = if x2 = 0 then sI (sk_T S b).1 else if x2 = 1 then nI c.1 else if x2 = 2 then nI c.2.1 else if x2 = 3 then nI (sk_tlt S b c.2.1) else -1 := by
  unfold vl_trace
  rw [sk_if_t ⟨b, by omega, by omega, rfl⟩, sk_n_nI (by omega), hc]
theorem sk_FH_Cn {hi' : Nat → Nat → Int32} (h : sk_FH hi hi') (hC : sk_Cn hi S) : sk_Cn hi' S := sk_Cn_0 hC (fun a h1 h2 => h a (by omega))
theorem cx_trace {x1 x2 : Int32} (hG : sk_G S) (hC : sk_Cn hi S) (hA : sk_Ca hi S) (q : ∀ hi', sk_Ca hi' S → sk_FH hi hi' → Q (some (.int (vl_trace S x1 x2))) (sk_h hi' rr ex)) : sk_Ct Γ m_X8_trace [.ref 0, .int x1, .int x2] (sk_h hi rr ex) Q := by
  refine sk_Ct.of ok_X8_trace.2.2.2 (Nat.le_of_ble_eq_true rfl) (k_X8_trace_0 (c_hasTrace hG hC hA (fun hi' b c hb hx hc hF hU hA' ho => ?_) (fun hi' hn hA' ho => ?_)))
  · subst hx
    have hs := hF.1
    rw [sk_CSe, hc] at hs
    obtain ⟨s1, s2, s3, s4⟩ := hs
    obtain ⟨t1, t2, t3, t4, t5, t6, t7⟩ := sk_T_ok hG hc
    have q' := q hi' hA' ho
    rw [sk_vt_s hb hc] at q'
    refine k_X8_trace_5 (fun _ z => ?_) (fun _ z => ?_) (fun _ z => ?_) (fun _ z => ?_) (fun _ z => ?_) (fun c => absurd c sk_n10)
    · rw [if_neg (show ¬ x2 = 0 from sk_out (u := 3) (by decide) z (j := 0) (by decide)), if_neg (show ¬ x2 = 1 from sk_out (u := 3) (by decide) z (j := 1) (by decide)), if_neg (show ¬ x2 = 2 from sk_out (u := 3) (by decide) z (j := 2) (by decide)), if_neg (show ¬ x2 = 3 from sk_out (u := 3) (by decide) z (j := 3) (by decide))] at q'
      exact q'
    · rw [if_pos z] at q'
      rw [s1]; exact q'
    · subst z
      rw [if_neg (by decide), if_pos rfl] at q'
      rw [s2]; exact q'
    · subst z
      rw [if_neg (by decide), if_neg (by decide), if_pos rfl] at q'
      rw [s3]; exact q'
    · subst z
      rw [if_neg (by decide), if_neg (by decide), if_neg (by decide), if_pos rfl] at q'
      exact c_lastLetter (sk_FH_Cn ho hC) hb t7 s3 (k_X8_trace_69 q')
  · have q' := q hi' hA' ho
    rw [sk_vt_n hn] at q'
    exact k_X8_trace_5 (fun c => absurd rfl c) (fun c => absurd rfl c) (fun c => absurd rfl c) (fun c => absurd rfl c) (fun c => absurd rfl c) (fun _ => q')
noncomputable def vl_height (S : sk_S) (x1 x2 : Int32) : Int32 := sk_if (sk_rg x1 0 3) (sk_ha S (sk_n x1) x2) (-1)
theorem sk_vh_n {x1 x2 : Int32} (h : ∀ b, b < 4 → x1 = nI b → (sk_T S b).2 = none) : vl_height S x1 x2 = -1 := by
  unfold vl_height
  by_cases z : sk_rg x1 0 3
  · obtain ⟨e, a, c⟩ := sk_rg_n z (by decide)
    rw [sk_if_t z]
    unfold sk_ha
    rw [h _ (by omega) e]
  · rw [sk_if_f z]
theorem sk_ha_out (hG : sk_G S) {b : Nat} {x : Int32} (hx : ¬ sk_rg x 0 23) : sk_ha S b x = -1 := by
  unfold sk_ha
  cases hc : (sk_T S b).2 with
  | none => rfl
  | some c =>
    obtain ⟨t1, t2, t3, t4, t5, t6, t7⟩ := sk_T_ok hG hc
    simp only
    by_cases h : x < nI c.1 ∨ nI c.2.1 < x
    · rw [if_pos h]
    · exfalso
      obtain ⟨n, n1, n2, n3⟩ := sk_rg_of (x := x) (by omega) (by omega) (fun z => h (Or.inl z)) (fun z => h (Or.inr z))
      exact hx ⟨n, by omega, by omega, n3⟩
theorem cx_height {x1 x2 : Int32} (hG : sk_G S) (hC : sk_Cn hi S) (hA : sk_Ca hi S) (q : ∀ hi', sk_Ca hi' S → sk_FH hi hi' → Q (some (.int (vl_height S x1 x2))) (sk_h hi' rr ex)) : sk_Ct Γ m_X8_height [.ref 0, .int x1, .int x2] (sk_h hi rr ex) Q := by
  refine sk_Ct.of ok_X8_height.2.2.2 (Nat.le_of_ble_eq_true rfl) (k_X8_height_0 (c_X8_isTone (fun z1 z2 => k_X8_height_5 (fun c => absurd c sk_n10) (fun _ => c_hasTrace hG hC hA (fun hi' b c hb hx hc hF hU hA' ho => ?_) (fun hi' hn hA' ho => ?_))) (fun z => k_X8_height_5 (fun _ => ?_) (fun c => absurd rfl c))))
  · subst hx
    have q' := q hi' hA' ho
    unfold vl_height at q'
    rw [sk_if_t z1, sk_n_nI (by omega)] at q'
    exact k_X8_height_13 (fun _ => c_heightAt hG hF (k_X8_height_26 q')) (fun c => absurd c sk_n10)
  · have q' := q hi' hA' ho
    rw [sk_vh_n hn] at q'
    exact k_X8_height_13 (fun c => absurd rfl c) (fun _ => q')
  · have q' := q hi hA (fun _ _ => rfl)
    have : vl_height S x1 x2 = -1 := by
      unfold vl_height
      by_cases w : sk_rg x1 0 3
      · rw [sk_if_t w, sk_ha_out hG (fun y => z ⟨w, y⟩)]
      · rw [sk_if_f w]
    rw [this] at q'
    exact q'
/-- what undone answers -/
def sp_undone (S : sk_S) (x1 r : Int32) : Prop := (¬ sk_rg x1 0 3 → r = -1) ∧ ∀ b, b < 4 → x1 = nI b → ((sk_T S b).2 = none → r = -1) ∧ ∀ c, (sk_T S b).2 = some c → ∃ n st, sk_Un (sk_ht S b c) (c.2.1 - c.1 + 1) st n ∧ r = nI n
theorem sp_undone_one {x1 r r' : Int32} (h : sp_undone S x1 r) (h' : sp_undone S x1 r') : r = r' := by
  by_cases z : sk_rg x1 0 3
  · obtain ⟨b, b0, b1, hx⟩ := z
    obtain ⟨a1, a2⟩ := h.2 b (by omega) hx
    obtain ⟨a1', a2'⟩ := h'.2 b (by omega) hx
    cases hc : (sk_T S b).2 with
    | none => rw [a1 hc, a1' hc]
    | some c =>
      obtain ⟨n, st, u, e⟩ := a2 c hc
      obtain ⟨n', st', u', e'⟩ := a2' c hc
      rw [e, e', (sk_Un_one u u').1]
  · rw [h.1 z, h'.1 z]
theorem sp_undone_n {x1 : Int32} (h : ∀ b, b < 4 → x1 = nI b → (sk_T S b).2 = none) : sp_undone S x1 (-1) :=
  ⟨fun _ => rfl, fun b hb hx => ⟨fun _ => rfl, fun c hc => by rw [h b hb hx] at hc; cases hc⟩⟩
theorem sp_undone_s {b n : Nat} {st : Nat → Int32} {c : Nat × Nat × Nat} (hb : b < 4) (hc : (sk_T S b).2 = some c) (hu : sk_Un (sk_ht S b c) (c.2.1 - c.1 + 1) st n) : sp_undone S (nI b) (nI n) :=
  ⟨fun z => absurd ⟨b, by omega, by omega, rfl⟩ z, fun b' hb' hx => by
    have : b = b' := (nI_eq (by omega) (by omega)).mp hx
    subst this
    exact ⟨fun z => (by rw [hc] at z; cases z), fun c' hc' => by rw [hc] at hc'; cases hc'; exact ⟨n, st, hu, rfl⟩⟩⟩
theorem cx_undone {x1 : Int32} (hG : sk_G S) (hC : sk_Cn hi S) (hA : sk_Ca hi S) (q : ∀ hi' r, sp_undone S x1 r → sk_Ca hi' S → sk_FH hi hi' → Q (some (.int r)) (sk_h hi' rr ex)) : sk_Ct Γ m_X8_undone [.ref 0, .int x1] (sk_h hi rr ex) Q := by
  refine sk_Ct.of ok_X8_undone.2.2.2 (Nat.le_of_ble_eq_true rfl) (k_X8_undone_0 (c_hasTrace hG hC hA (fun hi' b c hb hx hc hF hU hA' ho => ?_) (fun hi' hn hA' ho => ?_)))
  · subst hx
    obtain ⟨n, hu, he⟩ := hU c hc
    refine k_X8_undone_5 (fun c => absurd c sk_n10) (fun _ => ?_)
    rw [he]
    exact q hi' _ (sp_undone_s hb hc hu) hA' ho
  · exact k_X8_undone_5 (fun _ => q hi' _ (sp_undone_n hn) hA' ho) (fun c => absurd rfl c)
/-- what place answers, where n steps are undone -/
noncomputable def sk_pv (n : Nat) (st : Nat → Int32) (x2 x3 : Int32) : Int32 := sk_if (∃ i, i < n ∧ x2 = nI i) (if x3 = 0 then st (sk_n x2) else if x3 = 1 then sk_sum st (sk_n x2 + 1) else if x3 = 2 then sk_ws st (sk_n x2) (sk_n x2 + 1) / 100000 - 1 else -1) (-1)
theorem sk_pv_c {n : Nat} {st st' : Nat → Int32} (hn : n ≤ 24) (h : ∀ i, i < n → st' i = st i) (x2 x3 : Int32) : sk_pv n st' x2 x3 = sk_pv n st x2 x3 := by
  unfold sk_pv
  by_cases z : ∃ i, i < n ∧ x2 = nI i
  · rw [sk_if_t z, sk_if_t z]
    obtain ⟨i, hi, hx⟩ := z
    subst hx
    rw [sk_n_nI (by omega), h i hi, sk_sum_c (st := st) (i + 1) (fun j hj => h j (by omega)), sk_ws_c (st := st) i (i + 1) (fun j hj => h j (by omega))]
  · rw [sk_if_f z, sk_if_f z]
theorem sk_pin {n : Nat} {x : Int32} (hn : n ≤ 24) : (¬ x < 0 ∧ ¬ nI n - 1 < x) ↔ ∃ i, i < n ∧ x = nI i := by
  have e : (nI n - 1).toInt = (n : Int) - 1 := by
    have := pk_sub_toInt (a := n) (b := 1) (by omega) (by decide)
    exact this
  rw [Int32.lt_iff_toInt_lt, Int32.lt_iff_toInt_lt, e, show (0 : Int32).toInt = 0 by decide]
  constructor
  · rintro ⟨h1, h2⟩
    refine ⟨x.toInt.toNat, by omega, ?_⟩
    apply Int32.toInt_inj.mp
    rw [nI_toInt (by omega)]
    omega
  · rintro ⟨i, hi, rfl⟩
    rw [nI_toInt (by omega)]
    omega
def sp_place (S : sk_S) (x1 x2 x3 r : Int32) : Prop := (¬ sk_rg x1 0 3 → r = -1) ∧ ∀ b, b < 4 → x1 = nI b → ((sk_T S b).2 = none → r = -1) ∧ ∀ c, (sk_T S b).2 = some c → ∃ n st, n ≤ 24 ∧ sk_Un (sk_ht S b c) (c.2.1 - c.1 + 1) st n ∧ r = sk_pv n st x2 x3
theorem sp_place_one {x1 x2 x3 r r' : Int32} (h : sp_place S x1 x2 x3 r) (h' : sp_place S x1 x2 x3 r') : r = r' := by
  by_cases z : sk_rg x1 0 3
  · obtain ⟨b, b0, b1, hx⟩ := z
    obtain ⟨a1, a2⟩ := h.2 b (by omega) hx
    obtain ⟨a1', a2'⟩ := h'.2 b (by omega) hx
    cases hc : (sk_T S b).2 with
    | none => rw [a1 hc, a1' hc]
    | some c =>
      obtain ⟨n, st, n24, u, e⟩ := a2 c hc
      obtain ⟨n', st', n24', u', e'⟩ := a2' c hc
      obtain ⟨o1, o2⟩ := sk_Un_one u u'
      subst o1
      rw [e, e', sk_pv_c n24 o2]
  · rw [h.1 z, h'.1 z]
theorem sp_place_n {x1 x2 x3 : Int32} (h : ∀ b, b < 4 → x1 = nI b → (sk_T S b).2 = none) : sp_place S x1 x2 x3 (-1) :=
  ⟨fun _ => rfl, fun b hb hx => ⟨fun _ => rfl, fun c hc => by rw [h b hb hx] at hc; cases hc⟩⟩
theorem sp_place_s {b n : Nat} {x2 x3 : Int32} {st : Nat → Int32} {c : Nat × Nat × Nat} (hb : b < 4) (hn : n ≤ 24) (hc : (sk_T S b).2 = some c) (hu : sk_Un (sk_ht S b c) (c.2.1 - c.1 + 1) st n) : sp_place S (nI b) x2 x3 (sk_pv n st x2 x3) :=
  ⟨fun z => absurd ⟨b, by omega, by omega, rfl⟩ z, fun b' hb' hx => by
    have : b = b' := (nI_eq (by omega) (by omega)).mp hx
    subst this
    exact ⟨fun z => (by rw [hc] at z; cases z), fun c' hc' => by rw [hc] at hc'; cases hc'; exact ⟨n, st, hn, hu, rfl⟩⟩⟩
theorem cx_place {x1 x2 x3 : Int32} (hG : sk_G S) (hC : sk_Cn hi S) (hA : sk_Ca hi S) (q : ∀ hi' r, sp_place S x1 x2 x3 r → sk_Ca hi' S → sk_FH hi hi' → Q (some (.int r)) (sk_h hi' rr ex)) : sk_Ct Γ m_X8_place [.ref 0, .int x1, .int x2, .int x3] (sk_h hi rr ex) Q := by
  refine sk_Ct.of ok_X8_place.2.2.2 (Nat.le_of_ble_eq_true rfl) (k_X8_place_0 (c_hasTrace hG hC hA (fun hi' b c hb hx hc hF hU hA' ho => ?_) (fun hi' hn hA' ho => ?_)))
  · subst hx
    obtain ⟨n, hu, he⟩ := hU c hc
    obtain ⟨t1, t2, t3, t4, t5, t6, t7⟩ := sk_T_ok hG hc
    have hn : n ≤ 24 := by have := hu.1; omega
    have q' := q hi' _ (sp_place_s (x2 := x2) (x3 := x3) hb hn hc hu) hA' ho
    unfold sk_pv at q'
    refine k_X8_place_5 (fun c => absurd c sk_n10) (fun _ => ?_)
    rw [he]
    refine c_X8_within' (fun w1 w2 => ?_) (fun w => ?_)
    · have w := (sk_pin hn).mp ⟨w1, w2⟩
      rw [sk_if_t w] at q'
      obtain ⟨i, hi, hx⟩ := w
      subst hx
      rw [sk_n_nI (by omega)] at q'
      refine k_X8_place_22 (fun _ z => ?_) (fun _ z => ?_) (fun _ z => ?_) (fun _ z => ?_) (fun c => absurd c sk_n10)
      · rw [if_neg (show ¬ x3 = 0 from sk_out (u := 2) (by decide) z (j := 0) (by decide)), if_neg (show ¬ x3 = 1 from sk_out (u := 2) (by decide) z (j := 1) (by decide)), if_neg (show ¬ x3 = 2 from sk_out (u := 2) (by decide) z (j := 2) (by decide))] at q'
        exact q'
      · rw [if_pos z] at q'
        exact c_stepAt (by omega) (k_X8_place_64 q')
      · subst z
        rw [if_neg (by decide), if_pos rfl] at q'
        exact c_trueHeightAt (by omega) (k_X8_place_73 q')
      · subst z
        rw [if_neg (by decide), if_neg (by decide), if_pos rfl] at q'
        exact c_madeAgain (by omega) (k_X8_place_82 q')
    · rw [sk_if_f (fun z => w ((sk_pin hn).mpr z))] at q'
      exact k_X8_place_22 (fun c => absurd rfl c) (fun c => absurd rfl c) (fun c => absurd rfl c) (fun c => absurd rfl c) (fun _ => q')
  · exact k_X8_place_5 (fun _ => q hi' _ (sp_place_n hn) hA' ho) (fun c => absurd rfl c)
end PUBT
