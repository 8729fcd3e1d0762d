def sI (z : Int) : Int32 := Int32.ofInt z
theorem sI_toInt {z : Int} (h1 : -2147483648 ≤ z) (h2 : z < 2147483648) : (sI z).toInt = z := by
  unfold sI
  rw [Int32.toInt_ofInt, show ((Int32.size : Nat)) = 4294967296 from rfl, Int.bmod_def]
  split <;> omega
theorem sI_nI (n : Nat) : nI n = sI n := by
  unfold sI nI
  exact (Int32.ofInt_eq_ofNat (n := n)).symm
theorem sI_add (a b : Int) : sI a + sI b = sI (a + b) := (Int32.ofInt_add a b).symm
theorem sI_sub (a b : Int) : sI a - sI b = sI (a - b) := (Int32.ofInt_sub a b).symm
def sk_sm32 (z : Int) : Prop := -2147483648 ≤ z ∧ z < 2147483648
theorem sI_eq {a b : Int} (ha : sk_sm32 a) (hb : sk_sm32 b) : sI a = sI b ↔ a = b := by
  constructor
  · intro h
    have := congrArg Int32.toInt h
    rwa [sI_toInt ha.1 ha.2, sI_toInt hb.1 hb.2] at this
  · intro h; rw [h]
theorem sI_lt {a b : Int} (ha : sk_sm32 a) (hb : sk_sm32 b) : sI a < sI b ↔ a < b := by
  rw [Int32.lt_iff_toInt_lt, sI_toInt ha.1 ha.2, sI_toInt hb.1 hb.2]
theorem sI_le {a b : Int} (ha : sk_sm32 a) (hb : sk_sm32 b) : sI a ≤ sI b ↔ a ≤ b := by
  rw [Int32.le_iff_toInt_le, sI_toInt ha.1 ha.2, sI_toInt hb.1 hb.2]
/-- no way -/
abbrev sk_no : Int := -1000000
/-- a row: of each height the best worth from here on and its last tone -/
abbrev sk_Rw : Type := Nat → Int × Nat
def sk_stp (f : sk_Rw) (h : Nat) (acc : Int × Nat) (to : Nat) : Int × Nat := if (f to).1 = sk_no then acc else if acc.1 < (f to).1 - sk_ad to h ∨ ((f to).1 - sk_ad to h = acc.1 ∧ (f to).2 < acc.2) then ((f to).1 - sk_ad to h, (f to).2) else acc
def sk_fd (f : sk_Rw) (h : Nat) (acc : Int × Nat) (lo : Nat) : Nat → Int × Nat
  | 0 => acc
  | n + 1 => sk_stp f h (sk_fd f h acc lo n) (lo + n)
/-- how many heights can be reached -/
def sk_nr (h : Nat) : Nat := (if h + 3 ≤ 31 then h + 3 else 31) + 1 - (h - 3)
def sk_in0 (bar : Bool) (t : Nat) : Int × Nat := (if bar = true then sk_no else 0, t)
def sk_mo (bar : Bool) (t : Nat) (f : sk_Rw) (h : Nat) : Int × Nat := if t + 1 < 24 then sk_fd f h (sk_in0 bar t) (h - 3) (sk_nr h) else sk_in0 bar t
def sk_rw (bar : Bool) (t : Nat) (w : Nat → Nat) (f : sk_Rw) : sk_Rw := fun h => (if (sk_mo bar t f h).1 = sk_no then sk_no else (sk_mo bar t f h).1 + w h - 1, (sk_mo bar t f h).2)
/-- the row of tone 24 - k -/
def sk_dp (S : sk_S) (b : Nat) : Nat → sk_Rw
  | 0 => fun _ => (0, 0)
  | k + 1 => sk_rw (sk_bar S b (23 - k)) (23 - k) (sk_wo S b (23 - k)) (sk_dp S b k)
/-- the row of a tone -/
def sk_D (S : sk_S) (b t : Nat) : sk_Rw := sk_dp S b (24 - t)
theorem sk_D_eq (S : sk_S) (b : Nat) {t : Nat} (ht : t < 24) : sk_D S b t = sk_rw (sk_bar S b t) t (sk_wo S b t) (sk_D S b (t + 1)) := by
  unfold sk_D
  rw [show 24 - t = (24 - (t + 1)) + 1 by omega, sk_dp, show 23 - (24 - (t + 1)) = t by omega]
theorem sk_nr_ok {h : Nat} (hh : h < 32) : h - 3 + sk_nr h ≤ 32 ∧ ∀ i, i < sk_nr h → sk_ad (h - 3 + i) h ≤ 3 := by
  unfold sk_nr sk_ad
  constructor
  · split <;> omega
  · intro i hi
    split at hi <;> omega
/-- a way's worth is small -/
def sk_Sm (a : Int) : Prop := a = sk_no ∨ (-1000 ≤ a ∧ a ≤ 1000)
/-- a row of tone t is in order -/
def sk_Or (t : Nat) (f : sk_Rw) : Prop := ∀ h, h < 32 → ((f h).1 = sk_no ∨ (-(5 * ((24 : Int) - t)) ≤ (f h).1 ∧ (f h).1 ≤ 18 * ((24 : Int) - t))) ∧ t ≤ (f h).2 ∧ (f h).2 ≤ 23
/-- what holds of the search among the next heights -/
def sk_Ac (t : Nat) (bar : Bool) (a : Int × Nat) : Prop := (a.1 = sk_no → a = sk_in0 bar t) ∧ (a.1 = sk_no ∨ (-(5 * ((23 : Int) - t) + 3) ≤ a.1 ∧ a.1 ≤ 18 * ((23 : Int) - t))) ∧ t ≤ a.2 ∧ a.2 ≤ 23
theorem sk_Ac_0 {t : Nat} (ht : t < 24) (bar : Bool) : sk_Ac t bar (sk_in0 bar t) := by
  refine ⟨fun _ => rfl, ?_, Nat.le_refl t, by show t ≤ 23; omega⟩
  unfold sk_in0
  cases bar
  · right
    simp only [Bool.false_eq_true, if_false]
    omega
  · left
    rfl
theorem sk_Ac_s {t to h : Nat} {bar : Bool} {f : sk_Rw} {a : Int × Nat} (ht : t + 1 < 24) (hf : sk_Or (t + 1) f) (hto : to < 32) (had : sk_ad to h ≤ 3) (ha : sk_Ac t bar a) : sk_Ac t bar (sk_stp f h a to) := by
  obtain ⟨h1, h2, h3⟩ := hf to hto
  unfold sk_stp
  by_cases hn : (f to).1 = sk_no
  · rw [if_pos hn]; exact ha
  · rw [if_neg hn]
    split
    · rcases h1 with h1 | h1
      · exact absurd h1 hn
      · refine ⟨fun hz => ?_, Or.inr ?_, by show t ≤ (f to).2; omega, h3⟩
        · have hz : (f to).1 - (sk_ad to h : Int) = sk_no := hz
          unfold sk_no at hz
          omega
        · show _ ≤ (f to).1 - (sk_ad to h : Int) ∧ (f to).1 - (sk_ad to h : Int) ≤ _
          omega
    · exact ha
theorem sk_Ac_fd {t h lo : Nat} {bar : Bool} {f : sk_Rw} {a : Int × Nat} (ht : t + 1 < 24) (hf : sk_Or (t + 1) f) (ha : sk_Ac t bar a) : ∀ n, lo + n ≤ 32 → (∀ i, i < n → sk_ad (lo + i) h ≤ 3) → sk_Ac t bar (sk_fd f h a lo n)
  | 0, _, _ => ha
  | n + 1, h1, h2 => sk_Ac_s ht hf (by omega) (h2 n (by omega)) (sk_Ac_fd ht hf ha n (by omega) (fun i hi => h2 i (by omega)))
theorem sk_Ac_mo {t h : Nat} {bar : Bool} {f : sk_Rw} (ht : t < 24) (hh : h < 32) (hf : t + 1 < 24 → sk_Or (t + 1) f) : sk_Ac t bar (sk_mo bar t f h) := by
  unfold sk_mo
  by_cases h1 : t + 1 < 24
  · rw [if_pos h1]
    obtain ⟨n1, n2⟩ := sk_nr_ok hh
    exact sk_Ac_fd h1 (hf h1) (sk_Ac_0 ht bar) _ n1 n2
  · rw [if_neg h1]
    exact sk_Ac_0 ht bar
theorem sk_Or_rw {t : Nat} {bar : Bool} {w : Nat → Nat} {f : sk_Rw} (ht : t < 24) (hw : ∀ h, w h ≤ 18) (hf : t + 1 < 24 → sk_Or (t + 1) f) : sk_Or t (sk_rw bar t w f) := by
  intro h hh
  have ha := sk_Ac_mo (bar := bar) ht hh hf
  have hwh := hw h
  obtain ⟨a1, a2, a3, a4⟩ := ha
  refine ⟨?_, a3, a4⟩
  show (if (sk_mo bar t f h).1 = sk_no then sk_no else (sk_mo bar t f h).1 + w h - 1) = sk_no ∨ _ ≤ (if (sk_mo bar t f h).1 = sk_no then sk_no else (sk_mo bar t f h).1 + w h - 1) ∧ (if (sk_mo bar t f h).1 = sk_no then sk_no else (sk_mo bar t f h).1 + w h - 1) ≤ _
  by_cases hn : (sk_mo bar t f h).1 = sk_no
  · rw [if_pos hn]; exact Or.inl rfl
  · rw [if_neg hn]
    rcases a2 with a2 | a2
    · exact absurd a2 hn
    · right; omega
theorem sk_Or_D {S : sk_S} (hG : sk_G S) (b : Nat) : ∀ k t, t + k = 23 → sk_Or t (sk_D S b t) := by
  intro k
  induction k with
  | zero =>
    intro t ht
    rw [sk_D_eq S b (by omega)]
    exact sk_Or_rw (by omega) (fun h => sk_wo_le hG b t h) (fun h => by omega)
  | succ k ih =>
    intro t ht
    rw [sk_D_eq S b (by omega)]
    exact sk_Or_rw (by omega) (fun h => sk_wo_le hG b t h) (fun _ => ih (t + 1) (by omega))
/-- the search keeps what it began with, or has found a height -/
theorem sk_fd_src {f : sk_Rw} {h lo : Nat} {a : Int × Nat} : ∀ n, sk_fd f h a lo n = a ∨ ∃ i, i < n ∧ (f (lo + i)).1 ≠ sk_no ∧ sk_fd f h a lo n = ((f (lo + i)).1 - sk_ad (lo + i) h, (f (lo + i)).2)
  | 0 => Or.inl rfl
  | n + 1 => by
    show sk_stp f h (sk_fd f h a lo n) (lo + n) = a ∨ _
    unfold sk_stp
    by_cases hn : (f (lo + n)).1 = sk_no
    · rw [if_pos hn]
      rcases sk_fd_src (f := f) (h := h) (lo := lo) (a := a) n with e | ⟨i, i1, i2, i3⟩
      · exact Or.inl e
      · refine Or.inr ⟨i, by omega, i2, ?_⟩
        show sk_stp f h (sk_fd f h a lo n) (lo + n) = _
        unfold sk_stp
        rw [if_pos hn]
        exact i3
    · rw [if_neg hn]
      split
      · rename_i hc
        refine Or.inr ⟨n, by omega, hn, ?_⟩
        show sk_stp f h (sk_fd f h a lo n) (lo + n) = _
        unfold sk_stp
        rw [if_neg hn, if_pos hc]
      · rename_i hc
        rcases sk_fd_src (f := f) (h := h) (lo := lo) (a := a) n with e | ⟨i, i1, i2, i3⟩
        · exact Or.inl e
        · refine Or.inr ⟨i, by omega, i2, ?_⟩
          show sk_stp f h (sk_fd f h a lo n) (lo + n) = _
          unfold sk_stp
          rw [if_neg hn, if_neg hc]
          exact i3
/-- is this the next height of a trace that ends at e -/
def sk_nx (S : sk_S) (b t h e : Nat) : Nat → Bool := fun i => decide ((sk_D S b (t + 1) (h - 3 + i)).1 - sk_ad (h - 3 + i) h = (sk_D S b t h).1 + 1 - sk_wo S b t h ∧ (sk_D S b (t + 1) (h - 3 + i)).2 = e)
def sk_nh (S : sk_S) (b t h e : Nat) : Nat := match sk_ff (sk_nx S b t h e) (sk_nr h) with
  | some i => h - 3 + i
  | none => h
theorem sk_nh_ok {S : sk_S} (hG : sk_G S) {b t h e : Nat} (hh : h < 32) (ht : t < e) (he : e ≤ 23) (h1 : (sk_D S b t h).1 ≠ sk_no) (h2 : (sk_D S b t h).2 = e) : ∃ i, sk_ff (sk_nx S b t h e) (sk_nr h) = some i ∧ i < sk_nr h ∧ sk_nh S b t h e = h - 3 + i ∧ h - 3 + i < 32 ∧ (sk_D S b (t + 1) (h - 3 + i)).1 ≠ sk_no ∧ (sk_D S b (t + 1) (h - 3 + i)).2 = e := by
  have hd := sk_D_eq S b (t := t) (by omega)
  have hmo : sk_mo (sk_bar S b t) t (sk_D S b (t + 1)) h = sk_fd (sk_D S b (t + 1)) h (sk_in0 (sk_bar S b t) t) (h - 3) (sk_nr h) := by
    unfold sk_mo; rw [if_pos (by omega)]
  have h2' : (sk_mo (sk_bar S b t) t (sk_D S b (t + 1)) h).2 = e := by rw [← h2, hd]; rfl
  have h1' : (sk_mo (sk_bar S b t) t (sk_D S b (t + 1)) h).1 ≠ sk_no := fun w => h1 (by
    rw [hd]
    show (if (sk_mo (sk_bar S b t) t (sk_D S b (t + 1)) h).1 = sk_no then sk_no else _) = sk_no
    rw [if_pos w])
  have hv : (sk_D S b t h).1 + 1 - sk_wo S b t h = (sk_mo (sk_bar S b t) t (sk_D S b (t + 1)) h).1 := by
    rw [hd]
    show (if (sk_mo (sk_bar S b t) t (sk_D S b (t + 1)) h).1 = sk_no then sk_no else (sk_mo (sk_bar S b t) t (sk_D S b (t + 1)) h).1 + sk_wo S b t h - 1) + 1 - sk_wo S b t h = _
    rw [if_neg h1']
    omega
  obtain ⟨n1, n2⟩ := sk_nr_ok hh
  have ok := sk_Or_D hG b (23 - (t + 1)) (t + 1) (by omega)
  -- there is one
  have ex : ∃ i, i < sk_nr h ∧ sk_nx S b t h e i = true := by
    rw [hmo] at h2' h1' hv
    rcases sk_fd_src (f := sk_D S b (t + 1)) (h := h) (lo := h - 3) (a := sk_in0 (sk_bar S b t) t) (sk_nr h) with w | ⟨i, i1, i2, i3⟩
    · rw [w] at h2'
      have : t = e := h2'
      omega
    · refine ⟨i, i1, ?_⟩
      rw [i3] at hv h2'
      unfold sk_nx
      exact decide_eq_true ⟨hv.symm, h2'⟩
  obtain ⟨i0, j1, j2⟩ := ex
  cases hf : sk_ff (sk_nx S b t h e) (sk_nr h) with
  | none =>
    have := sk_ff_no hf i0 j1
    rw [j2] at this
    cases this
  | some i =>
    have hlt := sk_ff_lt hf
    have hp : sk_nx S b t h e i = true := by
      have key : ∀ n i, sk_ff (sk_nx S b t h e) n = some i → sk_nx S b t h e i = true := by
        intro n
        induction n with
        | zero => intro i w; cases w
        | succ n ih =>
          intro i w
          unfold sk_ff at w
          cases hg : sk_ff (sk_nx S b t h e) n with
          | some k => rw [hg] at w; simp only at w; cases w; exact ih _ hg
          | none =>
            rw [hg] at w
            simp only at w
            by_cases hp : sk_nx S b t h e n = true
            · rw [if_pos hp] at w; cases w; exact hp
            · rw [if_neg hp] at w; cases w
      exact key _ _ hf
    have hp2 := of_decide_eq_true hp
    refine ⟨i, rfl, hlt, by unfold sk_nh; rw [hf], by omega, fun w => ?_, hp2.2⟩
    have a2 := (sk_Ac_mo (bar := sk_bar S b t) (by omega) hh (fun _ => ok)).2.1
    rw [hv, w] at hp2
    have := hp2.1
    have n3 := n2 i hlt
    rcases a2 with a2 | a2
    · exact h1' a2
    · unfold sk_no at this
      omega
/-- the search for THE TRACE's start: greatest worth, tone, last tone, height -/
abbrev sk_Se : Type := Int × Option (Nat × Nat × Nat)
def sk_sl (d : Int × Nat) (t h : Nat) (a : sk_Se) : sk_Se := match a.2 with
  | none => if a.1 < d.1 then (d.1, some (t, d.2, h)) else a
  | some c => if a.1 < d.1 ∨ (t = c.1 ∧ d.1 = a.1 ∧ d.2 < c.2.1) then (d.1, some (t, d.2, h)) else a
def sk_sh (S : sk_S) (b t : Nat) (a : sk_Se) : Nat → sk_Se
  | 0 => a
  | h + 1 => sk_sl (sk_D S b t h) t h (sk_sh S b t a h)
def sk_se (S : sk_S) (b : Nat) : Nat → sk_Se
  | 0 => (0, none)
  | t + 1 => if sk_bar S b t = true then sk_se S b t else sk_sh S b t (sk_se S b t) 32
/-- what is known of a start that was found -/
def sk_SeOk (S : sk_S) (b t : Nat) (a : sk_Se) : Prop := (a.2 = none → a.1 = 0) ∧ ∀ c, a.2 = some c → c.1 ≤ t ∧ c.1 < 24 ∧ c.2.2 < 32 ∧ 0 < a.1 ∧ a.1 ≤ 432 ∧ sk_D S b c.1 c.2.2 = (a.1, c.2.1)
theorem sk_SeOk_sl {S : sk_S} (hG : sk_G S) {b t h : Nat} (ht : t < 24) (hh : h < 32) {a : sk_Se} (ha : sk_SeOk S b t a) : sk_SeOk S b t (sk_sl (sk_D S b t h) t h a) := by
  have ok := (sk_Or_D hG b (23 - t) t (by omega) h hh).1
  unfold sk_sl
  obtain ⟨w, c⟩ := a
  cases c with
  | none =>
    have h0 : w = 0 := ha.1 rfl
    simp only
    by_cases hc : w < (sk_D S b t h).1
    · rw [if_pos hc]
      refine ⟨fun z => (by cases z), fun c hz => ?_⟩
      cases hz
      refine ⟨Nat.le_refl _, ht, hh, by show 0 < (sk_D S b t h).1; omega, ?_, rfl⟩
      show (sk_D S b t h).1 ≤ 432
      rcases ok with ok | ok
      · unfold sk_no at ok; omega
      · omega
    · rw [if_neg hc]; exact ha
  | some c =>
    obtain ⟨c1, c2, c3, c4, c5, c6⟩ := ha.2 c rfl
    have c4 : 0 < w := c4
    simp only
    split
    · rename_i hc
      refine ⟨fun z => (by cases z), fun c hz => ?_⟩
      cases hz
      refine ⟨Nat.le_refl _, ht, hh, by show 0 < (sk_D S b t h).1; omega, ?_, rfl⟩
      show (sk_D S b t h).1 ≤ 432
      rcases ok with ok | ok
      · unfold sk_no at ok; omega
      · omega
    · exact ha
theorem sk_SeOk_sh {S : sk_S} (hG : sk_G S) {b t : Nat} (ht : t < 24) {a : sk_Se} (ha : sk_SeOk S b t a) : ∀ n, n ≤ 32 → sk_SeOk S b t (sk_sh S b t a n)
  | 0, _ => ha
  | n + 1, hn => sk_SeOk_sl hG ht (by omega) (sk_SeOk_sh hG ht ha n (by omega))
theorem sk_SeOk_se {S : sk_S} (hG : sk_G S) (b : Nat) : ∀ t, t ≤ 24 → sk_SeOk S b t (sk_se S b t)
  | 0, _ => ⟨fun _ => rfl, fun c hc => by cases hc⟩
  | t + 1, ht => by
    have ih := sk_SeOk_se hG b t (by omega)
    have up : ∀ a, sk_SeOk S b t a → sk_SeOk S b (t + 1) a := fun a h => ⟨h.1, fun c hc => by obtain ⟨c1, c2⟩ := h.2 c hc; exact ⟨by omega, c2⟩⟩
    unfold sk_se
    split
    · exact up _ ih
    · exact up _ (sk_SeOk_sh hG (by omega) ih 32 (Nat.le_refl _))
/-- THE TRACE -/
def sk_T (S : sk_S) (b : Nat) : sk_Se := sk_se S b 24
/-- its heights, from its first tone on -/
def sk_pa (S : sk_S) (b t0 e h0 : Nat) : Nat → Nat
  | 0 => h0
  | i + 1 => sk_nh S b (t0 + i) (sk_pa S b t0 e h0 i) e
theorem sk_pa_ok {S : sk_S} (hG : sk_G S) {b t0 e h0 : Nat} (hh : h0 < 32) (he : e ≤ 23) (h1 : (sk_D S b t0 h0).1 ≠ sk_no) (h2 : (sk_D S b t0 h0).2 = e) : ∀ i, t0 + i ≤ e → sk_pa S b t0 e h0 i < 32 ∧ (sk_D S b (t0 + i) (sk_pa S b t0 e h0 i)).1 ≠ sk_no ∧ (sk_D S b (t0 + i) (sk_pa S b t0 e h0 i)).2 = e
  | 0, _ => ⟨hh, h1, h2⟩
  | i + 1, hi => by
    obtain ⟨a1, a2, a3⟩ := sk_pa_ok hG hh he h1 h2 i (by omega)
    obtain ⟨k, k1, k2, k3, k4, k5, k6⟩ := sk_nh_ok hG a1 (by omega) he a2 a3
    show sk_nh S b (t0 + i) (sk_pa S b t0 e h0 i) e < 32 ∧ (sk_D S b (t0 + i + 1) (sk_nh S b (t0 + i) (sk_pa S b t0 e h0 i) e)).1 ≠ sk_no ∧ (sk_D S b (t0 + i + 1) (sk_nh S b (t0 + i) (sk_pa S b t0 e h0 i) e)).2 = e
    rw [k3]
    exact ⟨k4, k5, k6⟩
