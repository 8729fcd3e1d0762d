def sk_wi (f : Nat → Nat → Int32) (k j : Nat) (v : Int32) : Nat → Nat → Int32 := fun a => if a = k then upd (f a) j v else f a
def sk_wr (f : Nat → Nat → Option Nat) (k j : Nat) (v : Option Nat) : Nat → Nat → Option Nat := fun a => if a = k then va_up (f a) j v else f a
def sk_zi (f : Nat → Nat → Int32) (k : Nat) : Nat → Nat → Int32 := fun a => if a = k then fun _ => 0 else f a
def sk_zr (f : Nat → Nat → Option Nat) (k : Nat) : Nat → Nat → Option Nat := fun a => if a = k then fun _ => none else f a
theorem sk_at.kept {Γ : sk_Cx} {h h' : sk_Hp} {k : Nat} {kd : Nat × Nat} {H H1 : Heap} (a : sk_at Γ h k kd H) (h1 : h'.1 k = h.1 k) (h2 : h'.2.1 k = h.2.1 k) (hq : H1[Γ.2.1 + k]? = H[Γ.2.1 + k]?) : sk_at Γ h' k kd H1 := by
  have e : sk_fv Γ h' k kd.2 = sk_fv Γ h k kd.2 := by unfold sk_fv; rw [h1, h2]
  unfold sk_at at a ⊢
  rw [h1, h2, e, hq]
  split
  · rename_i h0
    rw [h0] at a
    obtain ⟨r, r1, r2⟩ := a
    exact ⟨r, r1, r2.kept hq⟩
  · rename_i h0
    rw [h0] at a
    exact a
  · rename_i h0
    rw [h0] at a
    exact a
  · rename_i q0 q1 q2
    split at a
    · exact absurd ‹kd.1 = 0› q0
    · exact absurd ‹kd.1 = 1› q1
    · exact absurd ‹kd.1 = 2› q2
    · exact a
theorem sk_Rp.put {Γ : sk_Cx} {h h' : sk_Hp} {H H1 : Heap} {k : Nat} {kd : Nat × Nat} (hR : sk_Rp Γ h H) (hk : h.2.2[k]? = some kd) (e : h'.2.2 = h.2.2) (hi : ∀ a, a ≠ k → h'.1 a = h.1 a) (hr : ∀ a, a ≠ k → h'.2.1 a = h.2.1 a) (z : H1.size = H.size) (oq : ∀ q : Nat, q ≠ Γ.2.1 + k → H1[q]? = H[q]?) (ha : sk_at Γ h' k kd H1) : sk_Rp Γ h' H1 := by
  refine ⟨by rw [z, e]; exact hR.1, fun a kd' hk' => ?_⟩
  rw [e] at hk'
  by_cases hak : a = k
  · subst hak
    cases hk.symm.trans hk'
    exact ha
  · exact (hR.2 a kd' hk').kept (hi a hak) (hr a hak) (oq _ (by omega))
theorem sk_Rp.new {Γ : sk_Cx} {h h' : sk_Hp} {H H1 : Heap} {kd : Nat × Nat} (hR : sk_Rp Γ h H) (e : h'.2.2 = h.2.2 ++ [kd]) (hi : ∀ a, a ≠ h.2.2.length → h'.1 a = h.1 a) (hr : ∀ a, a ≠ h.2.2.length → h'.2.1 a = h.2.1 a) (z : H1.size = H.size + 1) (oq : ∀ q : Nat, q < H.size → H1[q]? = H[q]?) (ha : sk_at Γ h' h.2.2.length kd H1) : sk_Rp Γ h' H1 := by
  refine ⟨by rw [z, e, hR.1, List.length_append]; rfl, fun a kd' hk' => ?_⟩
  rw [e] at hk'
  by_cases hl : a < h.2.2.length
  · rw [List.getElem?_append_left hl] at hk'
    exact (hR.2 a kd' hk').kept (hi a (by omega)) (hr a (by omega)) (oq _ (by rw [hR.1]; omega))
  · have hl2 := (List.getElem?_eq_some_iff.mp hk').1
    rw [List.length_append] at hl2
    have hz : a < h.2.2.length + 1 := hl2
    have : a = h.2.2.length := by omega
    subst this
    rw [List.getElem?_append_right (Nat.le_refl _), Nat.sub_self] at hk'
    cases hk'
    exact ha
/-- what is known of a field's link: its class's number, its slot, is it final -/
def sk_F (own : String) (index ci j : Nat) (fin : Bool) : Prop := ∃ (C : String) (T : u_T) (N : Nat), vwCl[ci]? = some (C, T, N) ∧ (∀ z ∈ u_ws C T N, z ∈ lw_g) ∧ j < N ∧ Cond.fieldLink own index (T j).1 (T j).2.1 (T j).2.2.1 ∈ lw_g ∧ (∀ k, k < N → parseFieldDescriptor (T k).2.2.1 = some (sk_ty ci k)) ∧ (∀ a, a < N → ∀ b, b < N → a ≠ b → (T a).2.1 ≠ (T b).2.1) ∧ (T j).2.2.2 = fin ∧ (T j).1 = C
theorem sk_F.mk {own : String} {index ci j : Nat} {fin : Bool} (C : String) (T : u_T) (N : Nat) (h1 : vwCl[ci]? = some (C, T, N)) (h2 : ∀ z ∈ u_ws C T N, z ∈ lw_g) (h3 : j < N) (h4 : Cond.fieldLink own index (T j).1 (T j).2.1 (T j).2.2.1 ∈ lw_tbl) (h5 : ∀ k, k < N → parseFieldDescriptor (T k).2.2.1 = some (sk_ty ci k)) (h6 : ∀ a, a < N → ∀ b, b < N → a ≠ b → (T a).2.1 ≠ (T b).2.1) (h7 : (T j).2.2.2 = fin) (h8 : (T j).1 = C) : sk_F own index ci j fin := ⟨C, T, N, h1, h2, h3, sk_in h4 rfl, h5, h6, h7, h8⟩
theorem sk_S_put {Γ : sk_Cx} {H0 H H1 : Heap} {locs : List Loc} {k i : Nat} (hS : va_S (sk_A Γ) H0 H locs) (z : H1.size = H.size) (oq : ∀ q : Nat, q ≠ Γ.2.1 + k → H1[q]? = H[q]?) : va_S (sk_A Γ) H0 H1 (locs ++ [⟨Γ.2.1 + k, i⟩]) := hS.put z oq (Nat.le_add_right _ _)
theorem sk_S_new {Γ : sk_Cx} {H0 H H1 : Heap} {locs : List Loc} (hS : va_S (sk_A Γ) H0 H locs) (z : H1.size = H.size + 1) (oq : ∀ q : Nat, q < H.size → H1[q]? = H[q]?) : va_S (sk_A Γ) H0 H1 locs := ⟨Nat.le_trans hS.1 (by omega), fun x h1 h2 => (oq x (Nat.lt_of_lt_of_le h1 hS.1)).trans (hS.2.1 x h1 h2), hS.2.2⟩
section HROWS
variable {Γ : sk_Cx} {X : sk_Px} {u : Nat × Nat} {pc : Nat} {L : List (Option Value)} {st : List Value} {h : sk_Hp}
theorem go_getV {index k ci j : Nat} {fin : Bool} {v : Value} (hd : decode X.1 pc = .ok (.getfield index, 3)) (hf : sk_F X.2.2.2.1 index ci j fin) (hk : h.2.2[k]? = some (0, ci)) (hv : sk_cv Γ v = sk_fv Γ h k ci j) (kk : sk_Go Γ X u (pc + 3) L (v :: st) h) : sk_Go Γ X u pc L (.ref k :: st) h := by
  intro p e s m args below meth c H locs ls E hR hS hL
  obtain ⟨C, T, N, f1, f2, f3, f4, f5, f6, f7, f8⟩ := hf
  obtain ⟨r, h1, cell, q1, q2, q3, q4⟩ := hR.2 k _ hk
  have hr : r = (C, T, N) := Option.some.inj (h1.symm.trans f1)
  subst hr
  obtain ⟨hSl, hfc, kC, hkC, hkind⟩ := E.2.2.2.2.2.2.2.2.1.1.1 ci _ f1
  obtain ⟨cf, kf, fi, f, hi, hsl⟩ := hSl j f3
  refine W.getf E.1 E.2.1 E.2.2.2.2.1 (E.2.2.2.2.2.1 _ f4) hi (u_facts hfc hkC (u_lays E.2.2.2.2.2.1 f2 f3) hi).1 q1 (by rw [q3]; exact fun h => by cases h) (v := sk_cv Γ v) ?_ rfl rfl hd (kk p e s m args below meth c H locs ls E hR hS hL)
  rw [hsl, q4 j f3, hv]
theorem go_getI {index k ci j : Nat} {fin : Bool} (hd : decode X.1 pc = .ok (.getfield index, 3)) (hf : sk_F X.2.2.2.1 index ci j fin) (hk : h.2.2[k]? = some (0, ci)) (ht : sk_isI (sk_ty ci j) = true) (kk : sk_Go Γ X u (pc + 3) L (.int (h.1 k j) :: st) h) : sk_Go Γ X u pc L (.ref k :: st) h :=
  go_getV hd hf hk (by unfold sk_fv; rw [if_pos ht]; rfl) kk
theorem go_getR {index k ci j a : Nat} {fin : Bool} (hd : decode X.1 pc = .ok (.getfield index, 3)) (hf : sk_F X.2.2.2.1 index ci j fin) (hk : h.2.2[k]? = some (0, ci)) (ht : sk_isI (sk_ty ci j) = false) (hv : h.2.1 k j = some a) (kk : sk_Go Γ X u (pc + 3) L (.ref a :: st) h) : sk_Go Γ X u pc L (.ref k :: st) h :=
  go_getV hd hf hk (by unfold sk_fv; rw [if_neg (by rw [ht]; decide), hv]; rfl) kk
theorem go_putI {index k ci j : Nat} {v : Int32} (hd : decode X.1 pc = .ok (.putfield index, 3)) (hf : sk_F X.2.2.2.1 index ci j false) (hk : h.2.2[k]? = some (0, ci)) (ht : sk_ty ci j = .int) (kk : sk_Go Γ X u (pc + 3) L st (sk_wi h.1 k j v, h.2)) : sk_Go Γ X u pc L (.int v :: .ref k :: st) h := by
  intro p e s m args below meth c H locs ls E hR hS hL
  obtain ⟨C, T, N, f1, f2, f3, f4, f5, f6, f7, f8⟩ := hf
  have hap := va_apart (own := C) E.2.2.2.2.2.1 f2 (sk_ty ci) f5 f6 E.2.2.2.2.2.2.2.2.1.1 f1
  obtain ⟨r, h1, cell, q1, q2, q3, q4⟩ := hR.2 k _ hk
  have hr : r = (C, T, N) := Option.some.inj (h1.symm.trans f1)
  subst hr
  obtain ⟨hSl, hfc, kC, hkC, hkind⟩ := E.2.2.2.2.2.2.2.2.1.1.1 ci _ f1
  obtain ⟨cf, kf, fi, f, hi, hsl⟩ := hSl j f3
  have hlay := E.2.2.2.2.2.1 _ (f2 _ (u_in_lay f3))
  unfold u_lay at hlay
  rw [if_neg (by rw [f7]; decide)] at hlay
  have hst := (u_facts hfc hkC (u_lays E.2.2.2.2.2.1 f2 f3) hi).1
  have h6 := u_store (v := .int v) hfc hkC hkind hlay hi ((f5 j f3).trans (by rw [ht])) rfl rfl
  refine W.putK E.1 E.2.1 (f := f) ⟨E.2.2.2.2.1, E.2.2.2.2.2.1 _ f4, ⟨_, _, _, hi⟩, hst⟩ (by rw [q2]; exact h6) q1 q3 (by rw [hsl]; exact k2_hasslot (q4 j f3)) rfl rfl hd fun H' e1 e2 e3 => ?_
  rw [hsl] at e1 ⊢
  refine kk p e s m args below meth c H' _ ls E (hR.put hk rfl (fun a ha => ?_) (fun _ _ => rfl) e2 e3 ⟨_, f1, t_OB.to (V := updV (sk_fv Γ h k ci) j (.int v)) ⟨_, e1, q2, q3, t_set q4 hap f3 (.int v)⟩ (fun i _ => ?_)⟩) (sk_S_put hS e2 e3) hL
  · show sk_wi h.1 k j v a = h.1 a
    unfold sk_wi
    rw [if_neg ha]
  · by_cases hij : i = j
    · subst hij
      unfold sk_fv
      rw [show sk_isI (sk_ty ci i) = true by rw [ht]; rfl]
      simp [updV, sk_wi, upd]
    · have e9 : sk_wi h.1 k j v k i = h.1 k i := by simp [sk_wi, upd, hij]
      show updV (sk_fv Γ h k ci) j (.int v) i = (if sk_isI (sk_ty ci i) = true then .int (sk_wi h.1 k j v k i) else sk_rf Γ (h.2.1 k i))
      rw [e9]
      simp [updV, hij]
      rfl
theorem go_putR {index k ci j a : Nat} (hd : decode X.1 pc = .ok (.putfield index, 3)) (hf : sk_F X.2.2.2.1 index ci j true) (hk : h.2.2[k]? = some (0, ci)) (ht : sk_isI (sk_ty ci j) = false) (hfit : fits (sk_ty ci j) (.ref (Γ.2.1 + a)) = true) (hnar : narrow (sk_ty ci j) (.ref (Γ.2.1 + a)) = .ref (Γ.2.1 + a)) (hi : X.2.2.2.2.1 = true) (hown : ∀ C T N, vwCl[ci]? = some (C, T, N) → C = X.2.2.2.1) (kk : sk_Go Γ X u (pc + 3) L st (h.1, sk_wr h.2.1 k j (some a), h.2.2)) : sk_Go Γ X u pc L (.ref a :: .ref k :: st) h := by
  intro p e s m args below meth c H locs ls E hR hS hL
  obtain ⟨C, T, N, f1, f2, f3, f4, f5, f6, f7, f8⟩ := hf
  have hap := va_apart (own := C) E.2.2.2.2.2.1 f2 (sk_ty ci) f5 f6 E.2.2.2.2.2.2.2.2.1.1 f1
  obtain ⟨r, h1, cell, q1, q2, q3, q4⟩ := hR.2 k _ hk
  have hr : r = (C, T, N) := Option.some.inj (h1.symm.trans f1)
  subst hr
  obtain ⟨hSl, hfc, kC, hkC, hkind⟩ := E.2.2.2.2.2.2.2.2.1.1.1 ci _ f1
  obtain ⟨cf, kf, fi, f, hif, hsl⟩ := hSl j f3
  have hlay := E.2.2.2.2.2.1 _ (f2 _ (u_in_lay f3))
  unfold u_lay at hlay
  rw [if_pos f7] at hlay
  have hst := (u_facts hfc hkC (u_lays E.2.2.2.2.2.1 f2 f3) hif).1
  have hcf : m.cls = cf := by
    obtain ⟨_, _, c', _, _, _, -, -, hf', -, -, -, hown2, -⟩ := Cond.laysFinal_spec hlay
    have e1 : c' = cf := by have := hif.symm.trans hf'; simp at this; exact this.1.symm
    rw [f8, hown C T N f1] at hown2
    rw [← e1]; exact Option.some.inj (E.2.2.2.2.1.symm.trans hown2)
  have h6 := u_fits (v := .ref (Γ.2.1 + a)) hfc hkC hkind (Or.inr hlay) hif (f5 j f3) hnar hfit
  refine W.putFinK E.1 E.2.1 E.2.2.2.2.1 (E.2.2.2.2.2.1 _ f4) hif hst hcf (E.2.2.2.2.2.2.2.1 hi) (by rw [q2]; exact h6) q1 q3 (by rw [hsl]; exact k2_hasslot (q4 j f3)) rfl rfl hd fun H' e1 e2 e3 => ?_
  rw [hsl] at e1 ⊢
  refine kk p e s m args below meth c H' _ ls E (hR.put hk rfl (fun _ _ => rfl) (fun b hb => ?_) e2 e3 ⟨_, f1, t_OB.to (V := updV (sk_fv Γ h k ci) j (.ref (Γ.2.1 + a))) ⟨_, e1, q2, q3, t_set q4 hap f3 (.ref (Γ.2.1 + a))⟩ (fun i _ => ?_)⟩) (sk_S_put hS e2 e3) hL
  · show sk_wr h.2.1 k j (some a) b = h.2.1 b
    unfold sk_wr
    rw [if_neg hb]
  · by_cases hij : i = j
    · subst hij
      unfold sk_fv
      rw [ht]
      simp [updV, sk_wr, va_up, sk_rf, va_rf]
    · have e9 : sk_wr h.2.1 k j (some a) k i = h.2.1 k i := by simp [sk_wr, va_up, hij]
      show updV (sk_fv Γ h k ci) j (.ref (Γ.2.1 + a)) i = (if sk_isI (sk_ty ci i) = true then .int (h.1 k i) else sk_rf Γ (sk_wr h.2.1 k j (some a) k i))
      rw [e9]
      simp [updV, hij]
      rfl
theorem go_iald {k n : Nat} {i : Int32} (hd : decode X.1 pc = .ok (.iaload, 1)) (hk : h.2.2[k]? = some (1, n)) (hin : vp_in i n) (kk : sk_Go Γ X u (pc + 1) L (.int (h.1 k i.toNatClampNeg) :: st) h) : sk_Go Γ X u pc L (.int i :: .ref k :: st) h := by
  intro p e s m args below meth c H locs ls E hR hS hL
  have hlt : i.toNatClampNeg < n := Nat.not_le.mp fun q => hin (Or.inr q)
  exact W.iald (v := .int (h.1 k i.toNatClampNeg)) E.1 E.2.1 (hR.2 k _ hk) ((E.2.2.2.2.2.2.2.2.1.1.2 0 _ rfl).1 n (fun j => .int (h.1 k j))) (fun q => by cases q) (by rw [arrV_size]; exact hin) (by rw [arrV_read _ _ hlt]) rfl rfl hd (kk p e s m args below meth c H locs ls E hR hS hL)
theorem go_zald {k n : Nat} {i : Int32} (hd : decode X.1 pc = .ok (.baload, 1)) (hk : h.2.2[k]? = some (2, n)) (hin : vp_in i n) (kk : sk_Go Γ X u (pc + 1) L (.int (h.1 k i.toNatClampNeg) :: st) h) : sk_Go Γ X u pc L (.int i :: .ref k :: st) h := by
  intro p e s m args below meth c H locs ls E hR hS hL
  have hlt : i.toNatClampNeg < n := Nat.not_le.mp fun q => hin (Or.inr q)
  exact W.zald (v := .int (h.1 k i.toNatClampNeg)) E.1 E.2.1 (hR.2 k _ hk) ((E.2.2.2.2.2.2.2.2.1.1.2 1 _ rfl).1 n (fun j => .int (h.1 k j))) (fun q => by cases q) (by rw [arrV_size]; exact hin) (by rw [arrV_read _ _ hlt]) rfl rfl hd (kk p e s m args below meth c H locs ls E hR hS hL)
theorem go_aaldV {k n : Nat} {i : Int32} {v : Value} (hd : decode X.1 pc = .ok (.aaload, 1)) (hk : h.2.2[k]? = some (3, n)) (hin : vp_in i n) (hv : sk_cv Γ v = sk_rf Γ (h.2.1 k i.toNatClampNeg)) (kk : sk_Go Γ X u (pc + 1) L (v :: st) h) : sk_Go Γ X u pc L (.int i :: .ref k :: st) h := by
  intro p e s m args below meth c H locs ls E hR hS hL
  have hlt : i.toNatClampNeg < n := Nat.not_le.mp fun q => hin (Or.inr q)
  exact W.aald (v := sk_cv Γ v) (ty := .object "SkyEcho$Sky") E.1 E.2.1 (hR.2 k _ hk) ((E.2.2.2.2.2.2.2.2.1.1.2 2 _ rfl).1 n (fun j => sk_rf Γ (h.2.1 k j))) rfl (fun q => by cases q) (by rw [arrV_size]; exact hin) (by rw [arrV_read _ _ hlt, hv]) rfl rfl hd (kk p e s m args below meth c H locs ls E hR hS hL)
theorem go_aald {k n a : Nat} {i : Int32} (hd : decode X.1 pc = .ok (.aaload, 1)) (hk : h.2.2[k]? = some (3, n)) (hin : vp_in i n) (hv : h.2.1 k i.toNatClampNeg = some a) (kk : sk_Go Γ X u (pc + 1) L (.ref a :: st) h) : sk_Go Γ X u pc L (.int i :: .ref k :: st) h := go_aaldV hd hk hin (by rw [hv]; rfl) kk
theorem go_aaldN {k n : Nat} {i : Int32} (hd : decode X.1 pc = .ok (.aaload, 1)) (hk : h.2.2[k]? = some (3, n)) (hin : vp_in i n) (hv : h.2.1 k i.toNatClampNeg = none) (kk : sk_Go Γ X u (pc + 1) L (.null :: st) h) : sk_Go Γ X u pc L (.int i :: .ref k :: st) h := go_aaldV hd hk hin (by rw [hv]; rfl) kk
theorem go_alen {k n : Nat} {v : Int32} (hd : decode X.1 pc = .ok (.arraylength, 1)) (hk : h.2.2[k]? = some (1, n)) (hv : Int32.ofNat n = v) (kk : sk_Go Γ X u (pc + 1) L (.int v :: st) h) : sk_Go Γ X u pc L (.ref k :: st) h := by
  intro p e s m args below meth c H locs ls E hR hS hL
  exact W.alen (ty := .int) E.1 E.2.1 (hR.2 k _ hk) ((E.2.2.2.2.2.2.2.2.1.1.2 0 _ rfl).1 n (fun j => .int (h.1 k j))) (by rw [arrV_size]; exact hv) rfl rfl hd (kk p e s m args below meth c H locs ls E hR hS hL)
theorem go_iast {k n : Nat} {i x : Int32} (hd : decode X.1 pc = .ok (.iastore, 1)) (hk : h.2.2[k]? = some (1, n)) (hin : vp_in i n) (kk : sk_Go Γ X u (pc + 1) L st (sk_wi h.1 k i.toNatClampNeg x, h.2)) : sk_Go Γ X u pc L (.int x :: .int i :: .ref k :: st) h := by
  intro p e s m args below meth c H locs ls E hR hS hL
  refine W.iast E.1 E.2.1 (hR.2 k _ hk) ((E.2.2.2.2.2.2.2.2.1.1.2 0 _ rfl).1 n (fun j => .int (h.1 k j))) (fun q => by cases q) (by rw [arrV_size]; exact hin) rfl rfl hd fun H1 e1 z oq => ?_
  refine kk p e s m args below meth c H1 _ ls E (hR.put hk rfl (fun a ha => ?_) (fun _ _ => rfl) z oq ?_) (sk_S_put hS z oq) hL
  · show sk_wi h.1 k _ x a = h.1 a
    unfold sk_wi
    rw [if_neg ha]
  · show H1[Γ.2.1 + k]? = some (arrV _ n (fun j => .int (sk_wi h.1 k i.toNatClampNeg x k j)))
    rw [e1, arrV_store]
    congr 2
    funext q
    by_cases hq : q = i.toNatClampNeg
    · subst hq
      simp [updV, sk_wi, upd]
    · simp [updV, sk_wi, upd, hq]
theorem go_zast {k n : Nat} {i x : Int32} (hd : decode X.1 pc = .ok (.bastore, 1)) (hk : h.2.2[k]? = some (2, n)) (hin : vp_in i n) (hx : narrow .boolean (.int x) = .int x) (kk : sk_Go Γ X u (pc + 1) L st (sk_wi h.1 k i.toNatClampNeg x, h.2)) : sk_Go Γ X u pc L (.int x :: .int i :: .ref k :: st) h := by
  intro p e s m args below meth c H locs ls E hR hS hL
  refine W.zast E.1 E.2.1 (hR.2 k _ hk) ((E.2.2.2.2.2.2.2.2.1.1.2 1 _ rfl).1 n (fun j => .int (h.1 k j))) (fun q => by cases q) (by rw [arrV_size]; exact hin) rfl rfl hd fun H1 e1 z oq => ?_
  refine kk p e s m args below meth c H1 _ ls E (hR.put hk rfl (fun a ha => ?_) (fun _ _ => rfl) z oq ?_) (sk_S_put hS z oq) hL
  · show sk_wi h.1 k _ x a = h.1 a
    unfold sk_wi
    rw [if_neg ha]
  · show H1[Γ.2.1 + k]? = some (arrV _ n (fun j => .int (sk_wi h.1 k i.toNatClampNeg x k j)))
    rw [e1, hx, arrV_store]
    congr 2
    funext q
    by_cases hq : q = i.toNatClampNeg
    · subst hq
      simp [updV, sk_wi, upd]
    · simp [updV, sk_wi, upd, hq]
theorem go_aast {k n a : Nat} {i : Int32} (hd : decode X.1 pc = .ok (.aastore, 1)) (hk : h.2.2[k]? = some (3, n)) (ha : h.2.2[a]? = some (0, 2)) (hin : vp_in i n) (kk : sk_Go Γ X u (pc + 1) L st (h.1, sk_wr h.2.1 k i.toNatClampNeg (some a), h.2.2)) : sk_Go Γ X u pc L (.ref a :: .int i :: .ref k :: st) h := by
  intro p e s m args below meth c H locs ls E hR hS hL
  have hlt : i.toNatClampNeg < n := Nat.not_le.mp fun q => hin (Or.inr q)
  have h0 : ¬ i < 0 := fun q => hin (Or.inl q)
  obtain ⟨r', hr', cellV, g1, g2, g3, -⟩ := hR.2 a _ ha
  have hcls := (E.2.2.2.2.2.2.2.2.1.1.1 2 (RX3, TX3, 3) rfl).2
  obtain ⟨kA, comp, k1, k2, k3, -⟩ := (E.2.2.2.2.2.2.2.2.1.1.2 2 _ rfl).2
  have hcomp : comp = Γ.2.2.1.1 2 := Option.some.inj (k3.symm.trans hcls.1)
  subst hcomp
  obtain ⟨kC, hkC, -⟩ := hcls.2
  refine W.aast E.1 E.2.1 (hR.2 k _ hk) (fun q h => by cases h) (fun h => by cases h) k1 k2 rfl hkC ⟨h0, by rw [arrV_size]; exact hlt⟩ g1 (fun q h => by rw [g3] at h; cases h) (by rw [g2]; exact hkC) (by rw [g2]; exact va_assign hcls) rfl rfl hd fun H1 e1 z oq => ?_
  refine kk p e s m args below meth c H1 _ ls E (hR.put hk rfl (fun _ _ => rfl) (fun b hb => ?_) z oq ?_) (sk_S_put hS z oq) hL
  · show sk_wr h.2.1 k _ (some a) b = h.2.1 b
    unfold sk_wr
    rw [if_neg hb]
  · show H1[Γ.2.1 + k]? = some (arrV _ n (fun j => sk_rf Γ (sk_wr h.2.1 k i.toNatClampNeg (some a) k j)))
    rw [e1, arrV_store]
    congr 2
    funext q
    by_cases hq : q = i.toNatClampNeg
    · subst hq
      simp [updV, sk_wr, va_up, sk_rf, va_rf]
    · simp [updV, sk_wr, va_up, hq]
theorem go_new {index ci N : Nat} {C : String} {T : u_T} (hd : decode X.1 pc = .ok (.new index, 3)) (hc : vwCl[ci]? = some (C, T, N)) (hin : ∀ z ∈ u_ws C T N, z ∈ lw_g) (hty : ∀ k, k < N → parseFieldDescriptor (T k).2.2.1 = some (sk_ty ci k)) (hdf : ∀ k, k < N → defaultValue (sk_ty ci k) = if sk_isI (sk_ty ci k) = true then .int 0 else .null) (h1 : Cond.classLink X.2.2.2.1 index C ∈ lw_g) (h2 : Cond.instantiable C N ∈ lw_g) (h3 : Cond.initialized C ∈ lw_g) (hcells : u.1 + 1 ≤ X.2.2.2.2.2.1.cells) (hslots : u.2 + N ≤ X.2.2.2.2.2.1.slots)
    (kk : sk_Go Γ X (u.1 + 1, u.2 + N) (pc + 3) L (.ref h.2.2.length :: st) (sk_zi h.1 h.2.2.length, sk_zr h.2.1 h.2.2.length, h.2.2 ++ [(0, ci)])) : sk_Go Γ X u pc L st h := by
  intro p e s m args below meth c H locs ls E hR hS hL
  have hKn := E.2.2.2.2.2.2.2.2.1.1.1 ci _ hc
  refine W.newcK E.1 E.2.1 E.2.2.2.2.1 (E.2.2.2.2.2.1 _ h1) (E.2.2.2.2.2.1 _ h2) (E.2.2.2.2.2.1 _ h3) rfl hd hcells hslots hKn.2.1 hR.1 fun H1 kC hkC e1 z1 o1 => ?_
  refine kk p e s m args below meth c H1 locs ls E (hR.new rfl (fun a ha => ?_) (fun a ha => ?_) (by rw [z1, hR.1]) (fun q hq => o1 q (by rw [← hR.1]; exact hq)) ⟨_, hc, (u_born (sk_ty ci) E.2.2.2.2.2.1 hin hKn hkC e1 hty).to (fun j hj => ?_)⟩) (sk_S_new hS (by rw [z1, hR.1]) (fun q hq => o1 q (by rw [← hR.1]; exact hq))) hL
  · show sk_zi h.1 h.2.2.length a = h.1 a
    unfold sk_zi
    rw [if_neg ha]
  · show sk_zr h.2.1 h.2.2.length a = h.2.1 a
    unfold sk_zr
    rw [if_neg ha]
  · rw [hdf j hj]
    show _ = (if sk_isI (sk_ty ci j) = true then Value.int (sk_zi h.1 h.2.2.length h.2.2.length j) else sk_rf Γ (sk_zr h.2.1 h.2.2.length h.2.2.length j))
    simp [sk_zi, sk_zr, sk_rf, va_rf]
theorem go_newi {n : Int32} {N : Nat} (hd : decode X.1 pc = .ok (.newarray .int, 2)) (ha : Cond.arrayClass .int ∈ lw_g) (hn : ¬ n < 0) (hN : n.toNatClampNeg = N) (hb : N * 4 ≤ 536870912) (hcells : u.1 + 1 ≤ X.2.2.2.2.2.1.cells) (hslots : u.2 + N ≤ X.2.2.2.2.2.1.slots)
    (kk : sk_Go Γ X (u.1 + 1, u.2 + N) (pc + 2) L (.ref h.2.2.length :: st) (sk_zi h.1 h.2.2.length, h.2.1, h.2.2 ++ [(1, N)])) : sk_Go Γ X u pc L (.int n :: st) h := by
  intro p e s m args below meth c H locs ls E hR hS hL
  refine va_newaK (atype := .int) E.1 E.2.1 (E.2.2.2.2.2.1 _ ha) rfl hd rfl hn hN hb hcells hslots hR.1 fun H1 cA e1 z1 o1 hAr hNm => ?_
  have hcA : cA = Γ.2.2.2.1.1 := Option.some.inj (hNm.symm.trans (E.2.2.2.2.2.2.2.2.1.1.2 0 _ rfl).2)
  subst hcA
  refine kk p e s m args below meth c H1 locs ls E (hR.new rfl (fun a ha => ?_) (fun _ _ => rfl) (by rw [z1, hR.1]) (fun q hq => o1 q (by rw [← hR.1]; exact hq)) ?_) (sk_S_new hS (by rw [z1, hR.1]) (fun q hq => o1 q (by rw [← hR.1]; exact hq))) hL
  · show sk_zi h.1 h.2.2.length a = h.1 a
    unfold sk_zi
    rw [if_neg ha]
  · show H1[Γ.2.1 + h.2.2.length]? = some (arrV _ N (fun j => .int (sk_zi h.1 h.2.2.length h.2.2.length j)))
    rw [e1]
    simp [sk_zi]
    rfl
theorem go_newz {n : Int32} {N : Nat} (hd : decode X.1 pc = .ok (.newarray .boolean, 2)) (ha : Cond.arrayClass .boolean ∈ lw_g) (hn : ¬ n < 0) (hN : n.toNatClampNeg = N) (hb : N * componentBytes .boolean ≤ 536870912) (hcells : u.1 + 1 ≤ X.2.2.2.2.2.1.cells) (hslots : u.2 + N ≤ X.2.2.2.2.2.1.slots)
    (kk : sk_Go Γ X (u.1 + 1, u.2 + N) (pc + 2) L (.ref h.2.2.length :: st) (sk_zi h.1 h.2.2.length, h.2.1, h.2.2 ++ [(2, N)])) : sk_Go Γ X u pc L (.int n :: st) h := by
  intro p e s m args below meth c H locs ls E hR hS hL
  refine va_newaK (atype := .boolean) E.1 E.2.1 (E.2.2.2.2.2.1 _ ha) rfl hd rfl hn hN hb hcells hslots hR.1 fun H1 cA e1 z1 o1 hAr hNm => ?_
  have hcA : cA = Γ.2.2.2.1.2.1 := Option.some.inj (hNm.symm.trans (E.2.2.2.2.2.2.2.2.1.1.2 1 _ rfl).2)
  subst hcA
  refine kk p e s m args below meth c H1 locs ls E (hR.new rfl (fun a ha => ?_) (fun _ _ => rfl) (by rw [z1, hR.1]) (fun q hq => o1 q (by rw [← hR.1]; exact hq)) ?_) (sk_S_new hS (by rw [z1, hR.1]) (fun q hq => o1 q (by rw [← hR.1]; exact hq))) hL
  · show sk_zi h.1 h.2.2.length a = h.1 a
    unfold sk_zi
    rw [if_neg ha]
  · show H1[Γ.2.1 + h.2.2.length]? = some (arrV _ N (fun j => .int (sk_zi h.1 h.2.2.length h.2.2.length j)))
    rw [e1]
    simp [sk_zi]
    rfl
theorem go_anew {index : Nat} {n : Int32} {N : Nat} (hd : decode X.1 pc = .ok (.anewarray index, 3)) (h1 : Cond.classLink X.2.2.2.1 index "SkyEcho$Sky" ∈ lw_g) (hn : ¬ n < 0) (hN : n.toNatClampNeg = N) (hb : N * 4 ≤ 536870912) (hcells : u.1 + 1 ≤ X.2.2.2.2.2.1.cells) (hslots : u.2 + N ≤ X.2.2.2.2.2.1.slots)
    (kk : sk_Go Γ X (u.1 + 1, u.2 + N) (pc + 3) L (.ref h.2.2.length :: st) (h.1, sk_zr h.2.1 h.2.2.length, h.2.2 ++ [(3, N)])) : sk_Go Γ X u pc L (.int n :: st) h := by
  intro p e s m args below meth c H locs ls E hR hS hL
  subst hN
  refine W.anew E.1 E.2.1 E.2.2.2.2.1 (E.2.2.2.2.2.1 _ h1) (va_AO.use E.2.2.2.2.2.2.2.2.1.2.2) rfl hd rfl hn hb hcells hslots fun cA kA comp f1 f2 f3 f4 => ?_
  obtain ⟨kB, comp2, b1, b2, b3, b4⟩ := (E.2.2.2.2.2.2.2.2.1.1.2 2 _ rfl).2
  have hcA : cA = Γ.2.2.2.1.2.2 := Option.some.inj (f1.symm.trans b4)
  subst hcA
  generalize hH1 : H.push ({ cls := Γ.2.2.2.1.2.2, slots := Array.replicate n.toNatClampNeg .null, vm := .none } : Cell) = H1
  have z1 : H1.size = H.size + 1 := by rw [← hH1, Array.size_push]
  have e1 : H1[H.size]? = some (arrV Γ.2.2.2.1.2.2 n.toNatClampNeg (fun _ => .null)) := by rw [← hH1, Array.getElem?_push_size, ← arrV_new]
  have o1 : ∀ q : Nat, q < H.size → H1[q]? = H[q]? := fun q hq => by rw [← hH1, Array.getElem?_push, if_neg (Nat.ne_of_lt hq)]
  have e2 : (Value.ref H.size) = sk_cv Γ (.ref h.2.2.length) := by rw [hR.1]; rfl
  show W p Γ.1 e _ s m args below meth c H1 locs _ _ _ (F0 m (pc + 3) ls (Value.ref H.size :: st.map (sk_cv Γ)))
  rw [e2]
  refine kk p e s m args below meth c H1 locs ls E (hR.new rfl (fun _ _ => rfl) (fun a ha => ?_) z1 o1 ?_) (sk_S_new hS z1 o1) hL
  · show sk_zr h.2.1 h.2.2.length a = h.2.1 a
    unfold sk_zr
    rw [if_neg ha]
  · show H1[Γ.2.1 + h.2.2.length]? = some (arrV _ n.toNatClampNeg (fun j => sk_rf Γ (sk_zr h.2.1 h.2.2.length h.2.2.length j)))
    rw [← hR.1, e1]
    simp [sk_zr, sk_rf, va_rf]
end HROWS
