theorem sk_lk {x p : Nat} : ∀ {l : List (Nat × Nat)}, l.lookup x = some p → (x, p) ∈ l
  | [], h => by cases h
  | (a, b) :: t, h => by
    by_cases e : x = a
    · subst e
      have : b = p := by simp [List.lookup] at h; exact h
      subst this
      exact List.mem_cons_self
    · have e2 : (x == a) = false := by simp [e]
      rw [List.lookup, e2] at h
      exact List.mem_cons_of_mem _ (sk_lk h)
theorem sk_tb_le {x p : Nat} (h : sk_tb.lookup x = some p) : x < 330 := by
  have a : ∀ z ∈ sk_tb, z.1 < 330 := by decide
  exact a _ (sk_lk h)
/-- the table's references stand -/
theorem sk_hr_self {f rr : Nat → Nat → Option Nat} {k : Nat} {v : Option Nat} (hk : k < 3) (h : ∀ a, a < 28 → a ≠ 11 → f a = sk_hr rr a) (h11 : ∀ j, f 11 j = if j = k then v else sk_hr rr 11 j) : f = sk_hr f := by
  funext a j
  unfold sk_hr
  cases hl : sk_tb.lookup (a * 16 + j) with
  | none => rfl
  | some p =>
    have := sk_tb_le hl
    have e : sk_hr rr a j = some p := by
      unfold sk_hr
      rw [hl]
    by_cases ha : a = 11
    · subst ha
      rw [h11]
      by_cases hj : j = k
      · exfalso
        subst hj
        have key : ∀ j, j < 3 → sk_tb.lookup (11 * 16 + j) = none := by decide
        rw [key j hk] at hl
        cases hl
      · rw [if_neg hj]
        exact e
    · rw [h a (by omega) ha]
      exact e
theorem sk_rr11 {rr : Nat → Nat → Option Nat} {k : Nat} (hk : k < 3) : sk_hr rr 11 k = rr 11 k := by
  have key : ∀ j, j < 3 → sk_tb.lookup (11 * 16 + j) = none := by decide
  unfold sk_hr
  rw [key k hk]
/-- the class's images -/
def sk_IC (hi : Nat → Nat → Int32) (rr : Nat → Nat → Option Nat) (ex : List (Nat × Nat)) (K : Nat → Option sk_S) : Prop := (∀ k, k < 3 → (K k = none → rr 11 k = none) ∧ ∀ S', K k = some S' → sk_G S' ∧ ∃ s, 28 ≤ s ∧ rr 11 k = some s ∧ sk_Sk (sk_ks ++ ex) s ∧ sk_Sr (sk_hr rr) s ∧ sk_Cs hi s S') ∧ ∀ k k' s s', k < 3 → k' < 3 → k ≠ k' → rr 11 k = some s → rr 11 k' = some s' → s + 9 < s' ∨ s' + 9 < s
def sk_uK (K : Nat → Option sk_S) (k : Nat) (S : sk_S) : Nat → Option sk_S := fun j => if j = k then some S else K j
theorem sk_Sk1 (ex : List (Nat × Nat)) : sk_Sk (sk_ks ++ ex) 1 := by
  refine ⟨rfl, fun i v h => ?_⟩
  have hi : i < 9 := (List.getElem?_eq_some_iff.mp h).1
  rw [← h]
  match i, hi with
  | 0, _ => rfl
  | 1, _ => rfl
  | 2, _ => rfl
  | 3, _ => rfl
  | 4, _ => rfl
  | 5, _ => rfl
  | 6, _ => rfl
  | 7, _ => rfl
  | 8, _ => rfl
  | n + 9, h => omega
theorem sk_Sr1 (rr : Nat → Nat → Option Nat) : sk_Sr (sk_hr rr) 1 := ⟨rfl, rfl, rfl, rfl, rfl, rfl, rfl, rfl, rfl⟩
theorem sk_Sk_lt {ks : List (Nat × Nat)} {s : Nat} (h : sk_Sk ks s) : s + 9 < ks.length := by
  have := (List.getElem?_eq_some_iff.mp (h.2 8 _ rfl)).1
  omega
theorem sk_Sk_ap {ks l : List (Nat × Nat)} {s : Nat} (h : sk_Sk ks s) : sk_Sk (ks ++ l) s := ⟨sk_kl h.1, fun i v hv => sk_kl (h.2 i v hv)⟩
theorem sk_IC_o {hi hi' : Nat → Nat → Int32} {rr : Nat → Nat → Option Nat} {ex : List (Nat × Nat)} {K : Nat → Option sk_S} (h : sk_IC hi rr ex K) (ho : ∀ a, 28 ≤ a → hi' a = hi a) : sk_IC hi' rr ex K := by
  refine ⟨fun k hk => ⟨(h.1 k hk).1, fun S' hS => ?_⟩, h.2⟩
  obtain ⟨g, s, s1, s2, s3, s4, s5⟩ := (h.1 k hk).2 S' hS
  exact ⟨g, s, s1, s2, s3, s4, sk_Cs_o s5 (fun a a1 a2 => ho a (by omega))⟩
section IMG
variable {Γ : sk_Cx} {Q : Option Value → sk_Hp → Prop} {rr : Nat → Nat → Option Nat} {ex : List (Nat × Nat)} {hi : Nat → Nat → Int32} {S : sk_S} {K : Nat → Option sk_S}
theorem cx_image {x1 : Int32} (hG : sk_G S) (hC : sk_Cn hi S) (hI : sk_IC hi rr ex K) (q1 : sk_rg x1 0 2 → ∀ hi' rr' ex', (∀ a, a < 28 → hi' a = hi a) → sk_IC hi' rr' ex' (sk_uK K (sk_n x1) S) → Q (some (.int 1)) (sk_h hi' rr' ex')) (q0 : ¬ sk_rg x1 0 2 → Q (some (.int 0)) (sk_h hi rr ex)) : sk_Ct Γ m_X8_image [.ref 0, .int x1] (sk_h hi rr ex) Q := by
  refine sk_Ct.of ok_X8_image.2.2.2 (Nat.le_of_ble_eq_true rfl) ?_
  refine go_iload_n dX8_image_0 rfl ?_
  refine go_iconst dX8_image_1 (v := 0) (by decide) ?_
  refine go_iconst dX8_image_2 (v := 2) (by decide) ?_
  refine go_callS (μ := m_X8_within) (n := 6) [.int x1, .int 0, .int 2] dX8_image_3 ok_X8_within ml_X8_49 wx_X8_within rfl (Nat.le_of_ble_eq_true rfl) ⟨Nat.le_of_ble_eq_true rfl, Nat.le_of_ble_eq_true rfl⟩ ⟨Nat.le_of_ble_eq_true rfl, Nat.le_of_ble_eq_true rfl⟩ rfl ?_
  refine c_X8_within (l := 0) (u := 2) (by decide) (by decide) (by decide) (by decide) (fun z => ?_) (fun z => ?_)
  rotate_left
  · refine go_if_ne (tgt := 11) dX8_image_6 (by decide) (fun c => absurd rfl c) (fun _ => ?_)
    refine go_iconst dX8_image_9 (v := 0) (by decide) ?_
    exact go_zret (μ := m_X8_image) dX8_image_10 rfl rfl (Nat.le_of_ble_eq_true rfl) (Nat.le_of_ble_eq_true rfl) (q0 z)
  refine go_if_ne (tgt := 11) dX8_image_6 (by decide) (fun _ => ?_) (fun c => absurd c sk_n10)
  obtain ⟨e1, z1, z2⟩ := sk_rg_n z (by decide)
  have q2 := q1 z
  clear q1
  generalize hkk : sk_n x1 = k at e1 z1 z2 q2
  subst e1
  have hk : k < 3 := by omega
  have vin : vp_in (nI k) 3 := vp_in_nI hk (by decide)
  have ci : (nI k).toNatClampNeg = k := nI_clamp (by omega)
  obtain ⟨i0, i1⟩ := hI.1 k hk
  refine go_aload_n dX8_image_11 rfl ?_
  refine go_getR (a := 11) dX8_image_12 fl_X8_16 rfl rfl rfl ?_
  refine go_iload_n dX8_image_15 rfl ?_
  have keepK : ∀ {j : Nat} {S' : sk_S}, j ≠ k → sk_uK K k S j = some S' → K j = some S' := fun hj h => by unfold sk_uK at h; rw [if_neg hj] at h; exact h
  have keepN : ∀ {j : Nat}, j ≠ k → sk_uK K k S j = none → K j = none := fun hj h => by unfold sk_uK at h; rw [if_neg hj] at h; exact h
  have selfK : sk_uK K k S k = some S := by unfold sk_uK; rw [if_pos rfl]
  cases hKk : K k with
  | some S' =>
    obtain ⟨g', s, s1, s2, s3, s4, s5⟩ := i1 S' hKk
    refine go_aald (a := s) dX8_image_16 rfl vin (by show sk_hr rr 11 _ = _; rw [ci, sk_rr11 hk]; exact s2) ?_
    refine go_astore_n dX8_image_17 (Nat.le_of_ble_eq_true rfl) ?_
    refine go_aload_n dX8_image_18 rfl ?_
    refine go_ifnonnull (tgt := 37) dX8_image_19 (by decide) ?_
    refine go_aload_n dX8_image_37 rfl ?_
    refine go_aload_n dX8_image_38 rfl ?_
    refine go_getR (a := 1) dX8_image_39 fl_X8_10 rfl rfl rfl ?_
    refine go_callV (μ := m_X3_copyFrom) (n := 45) (T := TX3) (N := 3) [.ref 1] dX8_image_42 ok_X3_copyFrom ml_X8_211 wx_X3_copyFrom wl_X3_copyFrom s3.1 rfl rfl (Nat.le_of_ble_eq_true rfl) ⟨Nat.le_of_ble_eq_true rfl, Nat.le_of_ble_eq_true rfl⟩ ⟨Nat.le_of_ble_eq_true rfl, Nat.le_of_ble_eq_true rfl⟩ rfl ?_
    refine c_X3_copyFrom s3 (sk_Sk1 ex) s4 (sk_Sr1 rr) (by omega) hG hC (fun hi' c1 c2 => ?_)
    refine go_iconst dX8_image_45 (v := 1) (by decide) ?_
    refine go_zret (μ := m_X8_image) dX8_image_46 rfl rfl (Nat.le_of_ble_eq_true rfl) (Nat.le_of_ble_eq_true rfl) (q2 hi' rr ex (fun a ha => c2 a (by omega)) ⟨fun j hj => ⟨fun h => ?_, fun S2 h => ?_⟩, hI.2⟩)
    · by_cases ej : j = k
      · subst ej; rw [selfK] at h; cases h
      · exact (hI.1 j hj).1 (keepN ej h)
    · by_cases ej : j = k
      · subst ej
        rw [selfK] at h; cases h
        exact ⟨hG, s, s1, s2, s3, s4, c1⟩
      · obtain ⟨g2, t, t1, t2, t3, t4, t5⟩ := (hI.1 j hj).2 S2 (keepK ej h)
        have dj := hI.2 j k t s hj hk ej t2 s2
        exact ⟨g2, t, t1, t2, t3, t4, sk_Cs_o t5 (fun a a1 a2 => c2 a (by omega))⟩
  | none =>
    have hn := i0 hKk
    have hlen : (sk_ks ++ ex).length = 28 + ex.length := by rw [List.length_append]; rfl
    refine go_aaldN dX8_image_16 rfl vin (by show sk_hr rr 11 _ = _; rw [ci, sk_rr11 hk]; exact hn) ?_
    refine go_astore_nN dX8_image_17 (Nat.le_of_ble_eq_true rfl) ?_
    refine go_aload_nN dX8_image_18 rfl ?_
    refine go_ifnonnullN dX8_image_19 ?_
    generalize hs : 28 + ex.length = s at hlen
    refine go_newL (ci := 2) (T := TX3) (N := 3) (m := s) hlen dX8_image_22 rfl wf_X3 tyX3_ok df_X3 cl_X8_7 ia_X3 iz_X3 (Nat.le_of_ble_eq_true rfl) (Nat.le_of_ble_eq_true rfl) ?_
    refine go_dup dX8_image_25 rfl ?_
    refine go_callN (μ := m_X3_init) (n := 29) dX8_image_26 ok_X3_init rfl rfl nw_X8_9 wx_X3_init rfl (Nat.le_of_ble_eq_true rfl) ⟨Nat.le_of_ble_eq_true rfl, Nat.le_of_ble_eq_true rfl⟩ ⟨Nat.le_of_ble_eq_true rfl, Nat.le_of_ble_eq_true rfl⟩ rfl ?_
    refine c_X3_init (k := s) (sk_ln hlen) (sk_kn hlen) (fun hi1 hr1 a1 b1 sr1 cs1 => ?_)
    have el : ((sk_ks ++ ex) ++ [(0, 2)]) ++ sk_k9 = sk_ks ++ (ex ++ ((0, 2) :: sk_k9)) := by
      simp only [List.append_assoc]
      rfl
    show sk_Go Γ (sk_M Γ m_X8_image Q) _ _ _ _ (hi1, hr1, ((sk_ks ++ ex) ++ [(0, 2)]) ++ sk_k9)
    have K1 : sk_Sk (sk_ks ++ (ex ++ ((0, 2) :: sk_k9))) s := by
      rw [← el]
      refine ⟨sk_kl (sk_kn hlen), fun i v hv => ?_⟩
      rw [List.getElem?_append_right (by rw [sk_ln hlen]; omega), sk_ln hlen, show s + 1 + i - (s + 1) = i by omega]
      exact hv
    rw [el]
    have b2 : ∀ a, a < 28 → hr1 a = sk_hr rr a := fun a ha => by rw [b1 a (by omega), sk_zr_o _ (by omega)]
    refine go_astore_n dX8_image_29 (Nat.le_of_ble_eq_true rfl) ?_
    refine go_aload_n dX8_image_30 rfl ?_
    refine go_getR (a := 11) dX8_image_31 fl_X8_16 rfl rfl (by show hr1 0 1 = _; rw [b2 0 (by decide)]; rfl) ?_
    refine go_iload_n dX8_image_34 rfl ?_
    refine go_aload_n dX8_image_35 rfl ?_
    refine go_aast dX8_image_36 rfl K1.1 vin ?_
    show sk_Go Γ (sk_M Γ m_X8_image Q) _ _ _ _ (hi1, sk_wr hr1 11 (nI k).toNatClampNeg (some s), sk_ks ++ (ex ++ ((0, 2) :: sk_k9)))
    rw [ci]
    generalize er2 : sk_wr hr1 11 k (some s) = hr2
    have o2 : ∀ a, a ≠ 11 → hr2 a = hr1 a := fun a ha => by rw [← er2, sk_wr_o _ _ _ ha]
    have e11 : ∀ j, hr2 11 j = if j = k then some s else sk_hr rr 11 j := fun j => by
      rw [← er2, ← b2 11 (by decide)]
      by_cases ej : j = k
      · subst ej; rw [sk_wr_self, if_pos rfl]
      · rw [sk_wr_ne _ _ ej, if_neg ej]
    have eself : hr2 = sk_hr hr2 := sk_hr_self (rr := rr) hk (fun a h1 h2 => by rw [o2 a h2, b2 a h1]) e11
    have S1 : sk_Sr (sk_hr hr2) s := by
      rw [← eself]
      unfold sk_Sr at sr1 ⊢
      rw [o2 s (by omega), o2 (s + 1) (by omega), o2 (s + 4) (by omega), o2 (s + 6) (by omega)]
      exact sr1
    rw [eself]
    have A1 : ∀ a, a < s → hi1 a = hi a := fun a ha => by rw [a1 a ha, sk_zi_o _ (by omega)]
    refine go_aload_n dX8_image_37 rfl ?_
    refine go_aload_n dX8_image_38 rfl ?_
    refine go_getR (a := 1) dX8_image_39 fl_X8_10 rfl rfl rfl ?_
    refine go_callV (μ := m_X3_copyFrom) (n := 45) (T := TX3) (N := 3) [.ref 1] dX8_image_42 ok_X3_copyFrom ml_X8_211 wx_X3_copyFrom wl_X3_copyFrom K1.1 rfl rfl (Nat.le_of_ble_eq_true rfl) ⟨Nat.le_of_ble_eq_true rfl, Nat.le_of_ble_eq_true rfl⟩ ⟨Nat.le_of_ble_eq_true rfl, Nat.le_of_ble_eq_true rfl⟩ rfl ?_
    refine c_X3_copyFrom K1 (sk_Sk1 _) S1 (sk_Sr1 _) (by omega) hG (sk_Cs_o (s := 1) (hi := hi) hC (fun a a1 a2 => A1 a (by omega))) (fun hi' c1 c2 => ?_)
    refine go_iconst dX8_image_45 (v := 1) (by decide) ?_
    have old : ∀ j, j < 3 → j ≠ k → hr2 11 j = rr 11 j := fun j hj ej => by rw [e11, if_neg ej, sk_rr11 hj]
    have new : hr2 11 k = some s := by rw [e11, if_pos rfl]
    refine go_zret (μ := m_X8_image) dX8_image_46 rfl rfl (Nat.le_of_ble_eq_true rfl) (Nat.le_of_ble_eq_true rfl) (q2 hi' hr2 _ (fun a ha => by rw [c2 a (by omega), A1 a (by omega)]) ⟨fun j hj => ⟨fun h => ?_, fun S2 h => ?_⟩, fun j j' t t' hj hj' ej ht ht' => ?_⟩)
    · by_cases ej : j = k
      · subst ej; rw [selfK] at h; cases h
      · rw [old j hj ej]
        exact (hI.1 j hj).1 (keepN ej h)
    · by_cases ej : j = k
      · subst ej
        rw [selfK] at h; cases h
        exact ⟨hG, s, by omega, new, K1, S1, c1⟩
      · obtain ⟨g2, t, t1, t2, t3, t4, t5⟩ := (hI.1 j hj).2 S2 (keepK ej h)
        have lt := sk_Sk_lt t3
        rw [hlen] at lt
        refine ⟨g2, t, t1, by rw [old j hj ej]; exact t2, by rw [← el]; exact sk_Sk_ap (sk_Sk_ap t3), ?_, sk_Cs_o t5 (fun a a1 a2 => by rw [c2 a (by omega), A1 a (by omega)])⟩
        rw [← eself]
        unfold sk_Sr at t4 ⊢
        have o3 : ∀ a, a < s → a ≠ 11 → hr2 a = sk_hr rr a := fun a h1 h2 => by rw [o2 a h2, b1 a h1, sk_zr_o _ (by omega)]
        rw [o3 t (by omega) (by omega), o3 (t + 1) (by omega) (by omega), o3 (t + 4) (by omega) (by omega), o3 (t + 6) (by omega) (by omega)]
        exact t4
    · have bound : ∀ j t, j < 3 → j ≠ k → hr2 11 j = some t → t + 9 < s := fun j t hj ej ht => by
        rw [old j hj ej] at ht
        cases hK : K j with
        | none => rw [(hI.1 j hj).1 hK] at ht; cases ht
        | some S2 =>
          obtain ⟨g2, t', t1, t2, t3, t4, t5⟩ := (hI.1 j hj).2 S2 hK
          rw [ht] at t2; cases t2
          have lt := sk_Sk_lt t3
          rw [hlen] at lt
          exact lt
      by_cases ek : j = k
      · subst ek
        rw [new] at ht; cases ht
        exact Or.inr (bound j' t' hj' (fun h => ej h.symm) ht')
      · by_cases ek' : j' = k
        · subst ek'
          rw [new] at ht'; cases ht'
          exact Or.inl (bound j t hj ek ht)
        · rw [old j hj ek] at ht
          rw [old j' hj' ek'] at ht'
          exact hI.2 j j' t t' hj hj' ej ht ht'
def sk_Pag (K : Nat → Option sk_S) (x1 : Int32) (S' : sk_S) : Prop := sk_rg x1 0 2 ∧ K (sk_n x1) = some S'
theorem cx_again {x1 : Int32} (hG : sk_G S) (hC : sk_Cn hi S) (hI : sk_IC hi rr ex K) (q1 : ∀ S', sk_Pag K x1 S' → sk_G S' → ∀ hi', sk_Cn hi' S' → hi' 0 5 = -1 → (∀ a, 12 ≤ a → hi' a = hi a) → Q (some (.int 1)) (sk_h hi' rr ex)) (q0 : (∀ S', ¬ sk_Pag K x1 S') → Q (some (.int 0)) (sk_h hi rr ex)) : sk_Ct Γ m_X8_again [.ref 0, .int x1] (sk_h hi rr ex) Q := by
  refine sk_Ct.of ok_X8_again.2.2.2 (Nat.le_of_ble_eq_true rfl) ?_
  refine go_iload_n dX8_again_0 rfl ?_
  refine go_iconst dX8_again_1 (v := 0) (by decide) ?_
  refine go_iconst dX8_again_2 (v := 2) (by decide) ?_
  refine go_callS (μ := m_X8_within) (n := 6) [.int x1, .int 0, .int 2] dX8_again_3 ok_X8_within ml_X8_49 wx_X8_within rfl (Nat.le_of_ble_eq_true rfl) ⟨Nat.le_of_ble_eq_true rfl, Nat.le_of_ble_eq_true rfl⟩ ⟨Nat.le_of_ble_eq_true rfl, Nat.le_of_ble_eq_true rfl⟩ rfl ?_
  refine c_X8_within (l := 0) (u := 2) (by decide) (by decide) (by decide) (by decide) (fun z => ?_) (fun z => ?_)
  rotate_left
  · refine go_if_ne (tgt := 11) dX8_again_6 (by decide) (fun c => absurd rfl c) (fun _ => ?_)
    refine go_iconst dX8_again_9 (v := 0) (by decide) ?_
    exact go_zret (μ := m_X8_again) dX8_again_10 rfl rfl (Nat.le_of_ble_eq_true rfl) (Nat.le_of_ble_eq_true rfl) (q0 (fun _ h => z h.1))
  refine go_if_ne (tgt := 11) dX8_again_6 (by decide) (fun _ => ?_) (fun c => absurd c sk_n10)
  obtain ⟨e1, z1, z2⟩ := sk_rg_n z (by decide)
  unfold sk_Pag at q1 q0
  generalize hkk : sk_n x1 = k at e1 z1 z2 q1 q0
  subst e1
  have hk : k < 3 := by omega
  have vin : vp_in (nI k) 3 := vp_in_nI hk (by decide)
  have ci : (nI k).toNatClampNeg = k := nI_clamp (by omega)
  obtain ⟨i0, i1⟩ := hI.1 k hk
  refine go_aload_n dX8_again_11 rfl ?_
  refine go_getR (a := 11) dX8_again_12 fl_X8_16 rfl rfl rfl ?_
  refine go_iload_n dX8_again_15 rfl ?_
  cases hKk : K k with
  | some S' =>
    obtain ⟨g', s, s1, s2, s3, s4, s5⟩ := i1 S' hKk
    refine go_aald (a := s) dX8_again_16 rfl vin (by show sk_hr rr 11 _ = _; rw [ci, sk_rr11 hk]; exact s2) ?_
    refine go_astore_n dX8_again_17 (Nat.le_of_ble_eq_true rfl) ?_
    refine go_aload_n dX8_again_18 rfl ?_
    refine go_ifnonnull (tgt := 24) dX8_again_19 (by decide) ?_
    refine go_aload_n dX8_again_24 rfl ?_
    refine go_getR (a := 1) dX8_again_25 fl_X8_10 rfl rfl rfl ?_
    refine go_aload_n dX8_again_28 rfl ?_
    refine go_callV (μ := m_X3_copyFrom) (n := 32) (T := TX3) (N := 3) [.ref s] dX8_again_29 ok_X3_copyFrom ml_X8_211 wx_X3_copyFrom wl_X3_copyFrom (show _ = some (0, 2) from rfl) rfl rfl (Nat.le_of_ble_eq_true rfl) ⟨Nat.le_of_ble_eq_true rfl, Nat.le_of_ble_eq_true rfl⟩ ⟨Nat.le_of_ble_eq_true rfl, Nat.le_of_ble_eq_true rfl⟩ rfl ?_
    refine c_X3_copyFrom (sk_Sk1 ex) s3 (sk_Sr1 rr) s4 (by omega) g' s5 (fun hi' c1 c2 => ?_)
    refine go_aload_n dX8_again_32 rfl ?_
    refine go_callV (μ := m_X8_forgetTrace) (n := 36) (T := TX8) (N := 6) [] dX8_again_33 ok_X8_forgetTrace ml_X8_67 wx_X8_forgetTrace wl_X8_forgetTrace (show _ = some (0, 7) from rfl) rfl rfl (Nat.le_of_ble_eq_true rfl) ⟨Nat.le_of_ble_eq_true rfl, Nat.le_of_ble_eq_true rfl⟩ ⟨Nat.le_of_ble_eq_true rfl, Nat.le_of_ble_eq_true rfl⟩ rfl ?_
    refine c_forget ?_
    refine go_iconst dX8_again_36 (v := 1) (by decide) ?_
    exact go_zret (μ := m_X8_again) dX8_again_37 rfl rfl (Nat.le_of_ble_eq_true rfl) (Nat.le_of_ble_eq_true rfl) (q1 S' ⟨z, hKk⟩ g' _ (sk_Cn_f c1) (sk_wi_self _ _ _ _) (fun a ha => by rw [sk_wi_o _ _ _ (by omega), c2 a (by omega)]))
  | none =>
    refine go_aaldN dX8_again_16 rfl vin (by show sk_hr rr 11 _ = _; rw [ci, sk_rr11 hk]; exact i0 hKk) ?_
    refine go_astore_nN dX8_again_17 (Nat.le_of_ble_eq_true rfl) ?_
    refine go_aload_nN dX8_again_18 rfl ?_
    refine go_ifnonnullN dX8_again_19 ?_
    refine go_iconst dX8_again_22 (v := 0) (by decide) ?_
    exact go_zret (μ := m_X8_again) dX8_again_23 rfl rfl (Nat.le_of_ble_eq_true rfl) (Nat.le_of_ble_eq_true rfl) (q0 (fun S' h => by rw [hKk] at h; cases h.2))
/-- the reference's images -/
def sk_IR (hi : Nat → Nat → Int32) (K : Nat → Option sk_S) : Prop := ∀ k, k < 3 → (K k = none → hi 22 k = 0) ∧ ∀ S', K k = some S' → hi 22 k = 1 ∧ sk_R (hi 21) (4592 * (k + 1)) S'
theorem sk_R_o {f f' : Nat → Int32} {off off' : Nat} (h4 : S.2.2.2.1 ≤ 4) (hR : sk_R f off S) (he : ∀ j, j < 4592 → f' (off' + j) = f (off + j)) : sk_R f' off' S := by
  obtain ⟨r1, r2, r3, r4, r5⟩ := hR
  refine ⟨fun b hb t ht h hh => ?_, ⟨?_, ?_, ?_⟩, fun k hk => ⟨?_, ?_⟩, ?_, fun i hi => ?_⟩
  · rw [Nat.add_assoc, he _ (by omega), ← Nat.add_assoc]; exact r1 b hb t ht h hh
  · have := he 0 (by decide); rw [Nat.add_zero, Nat.add_zero] at this; rw [this]; exact r2.1
  · rw [he _ (by decide)]; exact r2.2.1
  · rw [he _ (by decide)]; exact r2.2.2
  · rw [Nat.add_assoc, he _ (by omega), ← Nat.add_assoc]; exact (r3 k hk).1
  · rw [Nat.add_assoc, he _ (by omega), ← Nat.add_assoc]; exact (r3 k hk).2
  · rw [he _ (by decide)]; exact r4
  · have hi4 : i < 4 := Nat.lt_of_lt_of_le hi h4
    exact ⟨by rw [Nat.add_assoc, he _ (by omega), ← Nat.add_assoc]; exact (r5 i hi).1, by rw [Nat.add_assoc, he _ (by omega), ← Nat.add_assoc]; exact (r5 i hi).2.1, by rw [Nat.add_assoc, he _ (by omega), ← Nat.add_assoc]; exact (r5 i hi).2.2⟩
theorem sk_IR_o {hi' : Nat → Nat → Int32} (hg : ∀ k S', k < 3 → K k = some S' → sk_G S') (h : sk_IR hi K) (h22 : hi' 22 = hi 22) (h21 : ∀ j, 4592 ≤ j → hi' 21 j = hi 21 j) : sk_IR hi' K := by
  refine fun k hk => ⟨fun z => by rw [h22]; exact (h k hk).1 z, fun S' hS => ?_⟩
  obtain ⟨a, b⟩ := (h k hk).2 S' hS
  exact ⟨by rw [h22]; exact a, sk_R_o (hg k S' hk hS).2.2.2.2.2.1 b (fun j hj => h21 _ (by omega))⟩
theorem sk_4592 (k i : Nat) : 4592 * (nI k + 1) + nI i = nI (4592 * (k + 1) + i) := by
  rw [nI_1, show (4592 : Int32) = nI 4592 from rfl, pk_mul, nI_add]
theorem cm_image {x1 : Int32} (hG : sk_G S) (hR : sk_R0 hi S) (hg : ∀ k S', k < 3 → K k = some S' → sk_G S') (hI : sk_IR hi K) (q1 : sk_rg x1 0 2 → ∀ hi', (∀ a, a ≠ 21 → a ≠ 22 → hi' a = hi a) → sk_R0 hi' S → sk_IR hi' (sk_uK K (sk_n x1) S) → Q (some (.int 1)) (sk_h hi' rr ex)) (q0 : ¬ sk_rg x1 0 2 → Q (some (.int 0)) (sk_h hi rr ex)) : sk_Ct Γ m_X9_image [.ref 20, .int x1] (sk_h hi rr ex) Q := by
  have g4 : S.2.2.2.1 ≤ 4 := hG.2.2.2.2.2.1
  refine sk_Ct.of ok_X9_image.2.2.2 (Nat.le_of_ble_eq_true rfl) (k_X9_image_0 (c_X9_isIn (l := 0) (u := 2) (by decide) (by decide) (by decide) (by decide) (fun z => ?_) (fun z => k_X9_image_6 (fun c => absurd rfl c) (fun c => absurd rfl c) (fun _ => q0 z))))
  obtain ⟨e1, z1, z2⟩ := sk_rg_n z (by decide)
  have q2 := q1 z
  clear q1
  generalize hkk : sk_n x1 = k at e1 z1 z2 q2
  subst e1
  have hk : k < 3 := by omega
  refine k_X9_image_6 (fun _ => vp_in_nI hk (by decide)) (fun _ => ?_) (fun c => absurd c sk_n10)
  rw [nI_clamp (by omega)]
  have loop : ∀ n i (hi1 : Nat → Nat → Int32), i + n = 4592 → (∀ a, a ≠ 21 → hi1 a = sk_wi hi 22 k 1 a) → (∀ j, j < i → hi1 21 (4592 * (k + 1) + j) = hi 21 j) → (∀ j, j < 4592 * (k + 1) ∨ 4592 * (k + 1) + 4592 ≤ j → hi1 21 j = hi 21 j) → sk_Go Γ (sk_M Γ m_X9_image Q) (0, 0) 20 [some (.ref 20), some (.int (nI k)), some (.int (nI i))] [] (sk_h hi1 rr ex) := by
    intro n
    induction n with
    | zero =>
      intro i hi1 hn ho hv hw
      have : i = 4592 := by omega
      subst this
      have l : (4592 : Int32) ≤ nI 4592 := nI_le (a := 4592) (Nat.le_refl _) (by decide)
      refine k_X9_image_20 (fun _ => q2 hi1 (fun a a1 a2 => by rw [ho a a1, sk_wi_o _ _ _ a2]) ?_ (fun j hj => ⟨fun h => ?_, fun S' h => ?_⟩)) (fun c => absurd l c) (fun c => absurd l c) (fun c => absurd l c)
      · exact sk_R_o g4 hR (fun j hj => hw _ (by omega))
      · unfold sk_uK at h
        by_cases ej : j = k
        · rw [if_pos ej] at h; cases h
        · rw [if_neg ej] at h
          rw [ho 22 (by decide), sk_wi_ne _ _ ej]
          exact (hI j hj).1 h
      · unfold sk_uK at h
        by_cases ej : j = k
        · rw [if_pos ej] at h; cases h
          subst ej
          refine ⟨by rw [ho 22 (by decide), sk_wi_self], sk_R_o g4 hR (fun i hi => ?_)⟩
          rw [Nat.zero_add]
          exact hv i hi
        · rw [if_neg ej] at h
          obtain ⟨b1, b2⟩ := (hI j hj).2 S' h
          exact ⟨by rw [ho 22 (by decide), sk_wi_ne _ _ ej]; exact b1, sk_R_o (hg j S' hj h).2.2.2.2.2.1 b2 (fun i hi => hw _ (by omega))⟩
    | succ n ih =>
      intro i hi1 hn ho hv hw
      have c : ¬ (4592 : Int32) ≤ nI i := nI_ge (b := 4592) (by omega) (by decide)
      refine k_X9_image_20 (fun z => absurd z c) (fun _ => vp_in_nI (by omega) (by decide)) (fun _ => by rw [sk_4592]; exact vp_in_nI (by omega) (by decide)) (fun _ => ?_)
      rw [sk_4592, nI_clamp (by omega), nI_clamp (by omega), nI_1]
      refine ih (i + 1) _ (by omega) (fun a ha => by rw [sk_wi_o _ _ _ ha, ho a ha]) (fun j hj => ?_) (fun j hj => by rw [sk_wi_ne _ _ (by omega)]; exact hw j hj)
      by_cases ej : j = i
      · subst ej; rw [sk_wi_self]; exact hw j (by omega)
      · rw [sk_wi_ne _ _ (by omega)]; exact hv j (by omega)
  exact loop 4592 0 _ (by omega) (fun a _ => rfl) (fun j hj => by omega) (fun j _ => by rw [sk_wi_o _ _ _ (by decide)])
theorem cm_again {x1 : Int32} (hg : ∀ k S', k < 3 → K k = some S' → sk_G S') (hI : sk_IR hi K) (q1 : ∀ S', sk_Pag K x1 S' → ∀ hi', sk_R0 hi' S' → sk_FR hi hi' → Q (some (.int 1)) (sk_h hi' rr ex)) (q0 : (∀ S', ¬ sk_Pag K x1 S') → Q (some (.int 0)) (sk_h hi rr ex)) : sk_Ct Γ m_X9_again [.ref 20, .int x1] (sk_h hi rr ex) Q := by
  refine sk_Ct.of ok_X9_again.2.2.2 (Nat.le_of_ble_eq_true rfl) (k_X9_again_0 (c_X9_isIn (l := 0) (u := 2) (by decide) (by decide) (by decide) (by decide) (fun z => ?_) (fun z => k_X9_again_6 (fun _ => q0 (fun _ h => z h.1)) (fun c => absurd rfl c) (fun c => absurd rfl c) (fun c => absurd rfl c))))
  obtain ⟨e1, z1, z2⟩ := sk_rg_n z (by decide)
  unfold sk_Pag at q1 q0
  generalize hkk : sk_n x1 = k at e1 z1 z2 q1 q0
  subst e1
  have hk : k < 3 := by omega
  have ci : (nI k).toNatClampNeg = k := nI_clamp (by omega)
  cases hKk : K k with
  | none =>
    have h0 := (hI k hk).1 hKk
    exact k_X9_again_6 (fun c => absurd c sk_n10) (fun _ => vp_in_nI hk (by decide)) (fun _ c => absurd (by rw [ci]; exact h0) c) (fun _ _ => q0 (fun S' h => by rw [hKk] at h; cases h.2))
  | some S' =>
    obtain ⟨b1, b2⟩ := (hI k hk).2 S' hKk
    refine k_X9_again_6 (fun c => absurd c sk_n10) (fun _ => vp_in_nI hk (by decide)) (fun _ _ => ?_) (fun _ c => absurd c (by rw [ci, b1]; exact sk_n10))
    have loop : ∀ n i (hi1 : Nat → Nat → Int32), i + n = 4592 → (∀ a, a ≠ 21 → hi1 a = hi a) → (∀ j, j < i → hi1 21 j = hi 21 (4592 * (k + 1) + j)) → (∀ j, 4592 ≤ j → hi1 21 j = hi 21 j) → sk_Go Γ (sk_M Γ m_X9_again Q) (0, 0) 22 [some (.ref 20), some (.int (nI k)), some (.int (nI i))] [] (sk_h hi1 rr ex) := by
      intro n
      induction n with
      | zero =>
        intro i hi1 hn ho hv hw
        have : i = 4592 := by omega
        subst this
        have l : (4592 : Int32) ≤ nI 4592 := nI_le (a := 4592) (Nat.le_refl _) (by decide)
        refine k_X9_again_22 (fun _ => q1 S' ⟨z, hKk⟩ hi1 (sk_R_o (hg k S' hk hKk).2.2.2.2.2.1 b2 (fun j hj => by rw [Nat.zero_add]; exact hv j hj)) ⟨fun a ha => ho a (by omega), ho 22 (by decide), hw⟩) (fun c => absurd l c) (fun c => absurd l c) (fun c => absurd l c)
      | succ n ih =>
        intro i hi1 hn ho hv hw
        have c : ¬ (4592 : Int32) ≤ nI i := nI_ge (b := 4592) (by omega) (by decide)
        refine k_X9_again_22 (fun z => absurd z c) (fun _ => by rw [sk_4592]; exact vp_in_nI (by omega) (by decide)) (fun _ => vp_in_nI (by omega) (by decide)) (fun _ => ?_)
        rw [sk_4592, nI_clamp (by omega), nI_clamp (by omega), nI_1]
        refine ih (i + 1) _ (by omega) (fun a ha => by rw [sk_wi_o _ _ _ ha, ho a ha]) (fun j hj => ?_) (fun j hj => by rw [sk_wi_ne _ _ (by omega)]; exact hw j hj)
        by_cases ej : j = i
        · subst ej; rw [sk_wi_self]; exact hw _ (by omega)
        · rw [sk_wi_ne _ _ ej]; exact hv j (by omega)
    exact loop 4592 0 hi (by omega) (fun _ _ => rfl) (fun j hj => by omega) (fun _ _ => rfl)
end IMG
