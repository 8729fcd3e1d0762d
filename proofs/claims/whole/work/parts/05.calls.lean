/-- what is known of a method that is called: the words of its code -/
def sk_Ok (μ : sk_Mt) (n : Nat) : Prop := Cond.code μ.1 μ.2.1 μ.2.2.1 μ.2.2.2.1 ∈ lw_g ∧ Cond.initialized μ.1.cls ∈ lw_g ∧ (μ.1.cls ≠ "java/lang/invoke/MethodHandle" ∧ μ.1.cls ≠ "java/lang/invoke/VarHandle" ∧ (parseMethodDescriptor μ.1.desc).map (fun d => d.parameters.length) = some n) ∧ plainName μ.1.cls = true
theorem sk_words {μ : sk_Mt} {n : Nat} (h : sk_Ok μ n) : GoodIn lw_g (Cond.code μ.1 μ.2.1 μ.2.2.1 μ.2.2.2.1 :: lw_g) := fun z hz => by
  rcases List.mem_cons.mp hz with e | hz
  · rw [e]
    exact sk_good _ h.1
  · exact sk_good z hz
theorem sk_map_app {Γ : sk_Cx} (As : List Value) (st : List Value) : (As.reverse ++ st).map (sk_cv Γ) = (As.map (sk_cv Γ)).reverse ++ st.map (sk_cv Γ) := by
  rw [List.map_append, List.map_reverse]
theorem sk_cat_sum {Γ : sk_Cx} (st : List Value) : ((st.map (sk_cv Γ)).map fun v => v.category).sum = (st.map fun v => v.category).sum := by
  rw [List.map_map]
  congr 1
  exact List.map_congr_left fun v _ => sk_cv_cat Γ v
section CROWS
variable {Γ : sk_Cx} {X : sk_Px} {u : Nat × Nat} {pc : Nat} {L : List (Option Value)} {st : List Value} {h : sk_Hp}
/-- behind a call -/
theorem sk_after {p : Program} {e : Env} {s : State} {m : MethodId} {args : Array Value} {below : List Frame} {meth : Method} {c : Code} {H : Heap} {locs : List Loc} {ls : Array Slot} {st0 : List Value} {a : Array Value} {mc ms : Nat} {Q : Option Value → sk_Hp → Prop} {n : Nat}
    (E : sk_Ev Γ X p s m args meth c) (hS : va_S (sk_A Γ) s.heap H locs) (hL : sk_HL Γ ls X.2.1 L)
    (hr : va_Run p Γ.1 e X.2.2.2.2.2.1 s m args below meth c H locs u.1 u.2 mc ms (F0 m pc ls st0) (st.map (sk_cv Γ)) (sk_Qc Γ Q a) (sk_A Γ)) (hn : n = pc + 3)
    (kk : ∀ r h', Q r h' → sk_Go Γ X (u.1 + mc, u.2 + ms) n L (r.toList ++ st) h') : W p Γ.1 e X.2.2.2.2.2.1 s m args below meth c H locs u.1 u.2 (X.2.2.2.2.2.2.1 below args s) (F0 m pc ls st0) := by
  subst hn
  intro T hT X0
  obtain ⟨v, st₀, t, T', L1, h0, X', hL1, e1, e2, ⟨⟨r, h', hv, hq, hR'⟩, hz, hk⟩, stp⟩ := hr T hT X0
  cases hv
  rw [h0] at hz hk
  obtain ⟨t2, a1, b1⟩ := kk r h' hq p e s m args below meth c T'.heap (locs ++ L1) ls E (by rw [e1]; exact hR')
    ⟨Nat.le_trans hS.1 (by rw [e1]; exact hz), fun q h1 h2 => by rw [e1, hk q (Nat.lt_of_lt_of_le h1 hS.1) h2]; exact hS.2.1 q h1 h2, fun q hq' => by
      rcases List.mem_append.mp hq' with h | h
      · exact hS.2.2 q h
      · exact hL1 q h⟩ hL T' rfl X'
  refine ⟨t2, stp t2 ?_, b1⟩
  have e3 : (Option.map (sk_cv Γ) r).toList ++ st.map (sk_cv Γ) = (r.toList ++ st).map (sk_cv Γ) := by
    cases r <;> simp
  show Steps _ _ _ (T'.setTop (F0 m (pc + 3) ls ((Option.map (sk_cv Γ) r).toList ++ st.map (sk_cv Γ)))) t2
  rw [e3]
  exact a1
theorem sk_pre {p : Program} {s : State} {m : MethodId} {args : Array Value} {meth : Method} {c : Code} {H : Heap} {av : List Value} (E : sk_Ev Γ X p s m args meth c) (hR : sk_Rp Γ h H) : PreS s H (va_Pc (av.map (sk_cv Γ)) (fun U => sk_Rp Γ h U.heap ∧ sk_K Γ U)) (av.map (sk_cv Γ)) :=
  ⟨sk_blind, fun U hU hW => ⟨rfl, by rw [hU]; exact hR, E.2.2.2.2.2.2.2.2.1.warm hW⟩⟩
theorem go_callS {μ : sk_Mt} {index : Nat} (As : List Value) {st0 : List Value} (hd : decode X.1 pc = .ok (.invokestatic index, 3)) (ok : sk_Ok μ As.length) (hl : Cond.methodLink X.2.2.2.1 index μ.1 ∈ lw_g) (hs : Cond.static μ.1 ∈ lw_g) (h0 : st0 = As.reverse ++ st) (hc : (st.map fun v => v.category).sum ≤ 8) (hR1 : μ.2.2.2.2.1 + 1 ≤ X.2.2.2.2.2.1.frames ∧ 8 + (μ.2.2.1 + 11) + 37 * μ.2.2.2.2.1 ≤ X.2.2.2.2.2.1.locals) (hR2 : u.1 + μ.2.2.2.2.2.1 ≤ X.2.2.2.2.2.1.cells ∧ u.2 + μ.2.2.2.2.2.2 ≤ X.2.2.2.2.2.1.slots) {n : Nat} (hn : n = pc + 3)
    (kk : sk_Ct Γ μ As h (fun r h' => sk_Go Γ X (u.1 + μ.2.2.2.2.2.1, u.2 + μ.2.2.2.2.2.2) n L (r.toList ++ st) h')) : sk_Go Γ X u pc L st0 h := by
  intro p e s m args below meth c H locs ls E hR hS hL
  subst h0
  rw [sk_map_app]
  refine sk_after E hS hL (va_runS (n := As.length) (bytes := μ.2.1) (maxL := μ.2.2.1) (ret := μ.2.2.2.1) (As := As.map (sk_cv Γ)) (rest := st.map (sk_cv Γ)) ⟨E.1, E.2.1, E.2.2.2.1, E.2.2.2.2.1, E.2.2.2.2.2.1⟩ kk ⟨callB_of As.length E.2.2.2.2.2.1 (sk_words ok) rfl rfl rfl (E.2.2.2.2.2.1 _ ok.2.1) (E.2.2.2.2.2.1 _ hl) ok.2.2.1 hR1, E.2.2.2.2.2.1 _ hs⟩ (sk_pre E hR) rfl (by rw [List.length_map]) hL.1 rfl (lv_room (by rw [sk_cat_sum]; exact hc)) hd hR2) hn (fun r h' hq => hq)
theorem go_callV {μ : sk_Mt} {index k ci N : Nat} {T : u_T} (As : List Value) {st0 : List Value} (hd : decode X.1 pc = .ok (.invokevirtual index, 3)) (ok : sk_Ok μ As.length) (hl : Cond.methodLink X.2.2.2.1 index μ.1 ∈ lw_g) (hi : Cond.instanceMethod μ.1 ∈ lw_g) (hse : Cond.selects μ.1.cls μ.1 μ.1 ∈ lw_g) (hk : h.2.2[k]? = some (0, ci)) (hci : vwCl[ci]? = some (μ.1.cls, T, N)) (h0 : st0 = As.reverse ++ .ref k :: st) (hc : (st.map fun v => v.category).sum ≤ 8) (hR1 : μ.2.2.2.2.1 + 1 ≤ X.2.2.2.2.2.1.frames ∧ 8 + (μ.2.2.1 + 11) + 37 * μ.2.2.2.2.1 ≤ X.2.2.2.2.2.1.locals) (hR2 : u.1 + μ.2.2.2.2.2.1 ≤ X.2.2.2.2.2.1.cells ∧ u.2 + μ.2.2.2.2.2.2 ≤ X.2.2.2.2.2.1.slots) {n : Nat} (hn : n = pc + 3)
    (kk : sk_Ct Γ μ (.ref k :: As) h (fun r h' => sk_Go Γ X (u.1 + μ.2.2.2.2.2.1, u.2 + μ.2.2.2.2.2.2) n L (r.toList ++ st) h')) : sk_Go Γ X u pc L st0 h := by
  intro p e s m args below meth c H locs ls E hR hS hL
  subst h0
  rw [sk_map_app]
  obtain ⟨r0, h1, cell, q1, q2, q3, -⟩ := hR.2 k _ hk
  have hrec : ∃ cellB : Cell, H[Γ.2.1 + k]? = some cellB ∧ cellB.vm.isStatics = false ∧ s.vm.findClass μ.1.cls = some cellB.cls := ⟨cell, q1, by rw [q3]; rfl, by rw [q2]; exact (E.2.2.2.2.2.2.2.2.1.1.1 ci _ hci).2.1⟩
  have hpre := sk_pre (av := .ref k :: As) E hR
  refine sk_after E hS hL (va_runV (C := μ.1.cls) (n := As.length) (bytes := μ.2.1) (maxL := μ.2.2.1) (ret := μ.2.2.2.1) (b := Γ.2.1 + k) (As := As.map (sk_cv Γ)) (rest := st.map (sk_cv Γ)) ⟨E.1, E.2.1, E.2.2.2.1, E.2.2.2.2.1, E.2.2.2.2.2.1⟩ kk ⟨callB_of As.length E.2.2.2.2.2.1 (sk_words ok) rfl rfl rfl (E.2.2.2.2.2.1 _ ok.2.1) (E.2.2.2.2.2.1 _ hl) ok.2.2.1 hR1, E.2.2.2.2.2.1 _ hi, E.2.2.2.2.2.1 _ hse⟩ ⟨hpre.1, hrec, hpre.2⟩ rfl (by rw [List.length_map]) hL.1 rfl (lv_room (by rw [sk_cat_sum]; exact hc)) hd hR2) hn (fun r h' hq => hq)
theorem go_callI {μ : sk_Mt} {index k : Nat} {st0 : List Value} (hd : decode X.1 pc = .ok (.invokespecial index, 3)) (ok : sk_Ok μ 0) (hret : μ.2.2.2.1 = none) (hname : μ.1.name = "<init>") (hl : Cond.methodLink X.2.2.2.1 index μ.1 ∈ lw_g) (hi : Cond.instanceMethod μ.1 ∈ lw_g) (h0 : st0 = .ref k :: st) (hc : (st.map fun v => v.category).sum ≤ 8) (hR1 : μ.2.2.2.2.1 + 1 ≤ X.2.2.2.2.2.1.frames ∧ 8 + (μ.2.2.1 + 11) + 37 * μ.2.2.2.2.1 ≤ X.2.2.2.2.2.1.locals) (hR2 : u.1 + μ.2.2.2.2.2.1 ≤ X.2.2.2.2.2.1.cells ∧ u.2 + μ.2.2.2.2.2.2 ≤ X.2.2.2.2.2.1.slots) {n : Nat} (hn : n = pc + 3)
    (kk : sk_Ct Γ μ [.ref k] h (fun r h' => sk_Go Γ X (u.1 + μ.2.2.2.2.2.1, u.2 + μ.2.2.2.2.2.2) n L (r.toList ++ st) h')) : sk_Go Γ X u pc L st0 h := by
  intro p e s m args below meth c H locs ls E hR hS hL
  subst h0
  have kk2 := kk
  unfold sk_Ct at kk2
  have hw := sk_words ok
  rw [hret] at kk2 hw
  refine sk_after E hS hL (va_runI (n := 0) (bytes := μ.2.1) (maxL := μ.2.2.1) (b := Γ.2.1 + k) (As := []) (rest := st.map (sk_cv Γ)) ⟨E.1, E.2.1, E.2.2.2.1, E.2.2.2.2.1, E.2.2.2.2.2.1⟩ kk2 ⟨callB_of 0 E.2.2.2.2.2.1 hw rfl rfl rfl (E.2.2.2.2.2.1 _ ok.2.1) (E.2.2.2.2.2.1 _ hl) ok.2.2.1 hR1, hname, E.2.2.2.2.2.1 _ hi⟩ (sk_pre (av := [.ref k]) E hR) rfl rfl hL.1 rfl (lv_room (by rw [sk_cat_sum]; exact hc)) hd hR2) hn (fun r h' hq => hq)
theorem go_callN {μ : sk_Mt} {index k : Nat} {st0 : List Value} (hd : decode X.1 pc = .ok (.invokespecial index, 3)) (ok : sk_Ok μ 0) (hret : μ.2.2.2.1 = none) (hname : μ.1.name = "<init>") (hl : (X.2.2.2.1, index, μ.1) ∈ sk_nw) (hi : Cond.instanceMethod μ.1 ∈ lw_g) (h0 : st0 = .ref k :: st) (hc : (st.map fun v => v.category).sum ≤ 8) (hR1 : μ.2.2.2.2.1 + 1 ≤ X.2.2.2.2.2.1.frames ∧ 8 + (μ.2.2.1 + 11) + 37 * μ.2.2.2.2.1 ≤ X.2.2.2.2.2.1.locals) (hR2 : u.1 + μ.2.2.2.2.2.1 ≤ X.2.2.2.2.2.1.cells ∧ u.2 + μ.2.2.2.2.2.2 ≤ X.2.2.2.2.2.1.slots) {n : Nat} (hn : n = pc + 3)
    (kk : sk_Ct Γ μ [.ref k] h (fun r h' => sk_Go Γ X (u.1 + μ.2.2.2.2.2.1, u.2 + μ.2.2.2.2.2.2) n L (r.toList ++ st) h')) : sk_Go Γ X u pc L st0 h := by
  intro p e s m args below meth c H locs ls E hR hS hL
  subst h0
  have kk2 := kk
  unfold sk_Ct at kk2
  have hw := sk_words ok
  rw [hret] at kk2 hw
  refine sk_after E hS hL (va_runIN (n := 0) (bytes := μ.2.1) (maxL := μ.2.2.1) (b := Γ.2.1 + k) (As := []) (rest := st.map (sk_cv Γ)) ⟨E.1, E.2.1, E.2.2.2.1, E.2.2.2.2.1, E.2.2.2.2.2.1⟩ kk2 ⟨va_cnB 0 E.2.2.2.2.2.1 hw rfl rfl rfl (E.2.2.2.2.2.2.2.2.1.2.1 _ hl) (E.2.2.2.2.2.1 _ ok.2.1) ok.2.2.1 hR1, hname, E.2.2.2.2.2.1 _ hi⟩ (sk_pre (av := [.ref k]) E hR) rfl rfl hL.1 rfl (lv_room (by rw [sk_cat_sum]; exact hc)) hd hR2) hn (fun r h' hq => hq)
theorem go_obj {index k : Nat} (hd : decode X.1 pc = .ok (.invokespecial index, 3)) (hl : Cond.methodLink X.2.2.2.1 index Lib.objectInit ∈ lw_g) (hi : Cond.instanceMethod Lib.objectInit ∈ lw_g) (hcd : Cond.code Lib.objectInit ⟨#[0xb1]⟩ 1 none ∈ lw_g) (hf : 1 ≤ X.2.2.2.2.2.1.frames) (hc : (st.map fun v => v.category).sum + 12 ≤ X.2.2.2.2.2.1.locals) {n : Nat} (hn : n = pc + 3) (kk : sk_Go Γ X u n L st h) : sk_Go Γ X u pc L (.ref k :: st) h := by
  intro p e s m args below meth c H locs ls E hR hS hL
  subst hn
  exact W.objInit E.1 E.2.1 E.2.2.2.2.1 (E.2.2.2.2.2.1 _ hl) (E.2.2.2.2.2.1 _ hi) (E.2.2.2.2.2.1 _ hcd) rfl (by rw [E.2.2.2.1]; exact hL.1) rfl hd hf (by show 2 * 0 + ((st.map (sk_cv Γ)).map fun v => v.category).sum + 12 ≤ _; rw [sk_cat_sum]; omega) (kk p e s m args below meth c H locs ls E hR hS hL)
theorem go_copy {index k0 k1 n0 n1 : Nat} {sp dp n : Int32} (hd : decode X.1 pc = .ok (.invokestatic index, 3)) (hl : Cond.methodLink X.2.2.2.1 index arraycopyName ∈ lw_g) (hnat : Cond.native arraycopyName ∈ lw_g) (hstat : Cond.static arraycopyName ∈ lw_g) (hini : Cond.initialized "java/lang/System" ∈ lw_g) (hk0 : h.2.2[k0]? = some (1, n0)) (hk1 : h.2.2[k1]? = some (1, n1)) (h1 : ¬ sp < 0) (h2 : ¬ dp < 0) (h3 : ¬ n < 0) (h4 : sp.toNatClampNeg + n.toNatClampNeg ≤ n0) (h5 : dp.toNatClampNeg + n.toNatClampNeg ≤ n1) (hf : 1 ≤ X.2.2.2.2.2.1.frames) (hc : (st.map fun v => v.category).sum + (nativeFrameWords "java/lang/System" "arraycopy" 5 + 11) ≤ X.2.2.2.2.2.1.locals) {np : Nat} (hn : np = pc + 3)
    (kk : sk_Go Γ X u np L st (fun a => if a = k1 then va_cpy (h.1 k0) (h.1 k1) sp.toNatClampNeg dp.toNatClampNeg n.toNatClampNeg else h.1 a, h.2)) : sk_Go Γ X u pc L (.int n :: .int dp :: .ref k1 :: .int sp :: .ref k0 :: st) h := by
  intro p e s m args below meth c H locs ls E hR hS hL
  subst hn
  have nn : ∀ z : Int32, ¬ z < 0 → z.toInt = (z.toNatClampNeg : Int) := by
    intro z hz
    have hz0 : (0 : Int) ≤ z.toInt := by
      have := Int32.not_lt.mp hz
      simpa using Int32.le_iff_toInt_le.mp this
    show z.toInt = ((z.toInt.toNat : Nat) : Int)
    omega
  intro T hT X0
  have hc0 : H[Γ.2.1 + k0]? = some (arrV Γ.2.2.2.1.1 n0 (fun j => .int (h.1 k0 j))) := hR.2 k0 _ hk0
  have hc1 : H[Γ.2.1 + k1]? = some (arrV Γ.2.2.2.1.1 n1 (fun j => .int (h.1 k1 j))) := hR.2 k1 _ hk1
  obtain ⟨-, kA, hkA, cmA, hkkA⟩ := (E.2.2.2.2.2.2.2.2.1.1.2 0 _ rfl).1 n0 (fun j => .int (h.1 k0 j))
  obtain ⟨vm', X', step⟩ := X0.arraycopy E.1 E.2.2.2.2.1 (E.2.2.2.2.2.1 _ hl) (E.2.2.2.2.2.1 _ hnat) (E.2.2.2.2.2.1 _ hstat) (E.2.2.2.2.2.1 _ hini) (src := Γ.2.1 + k0) (dst := Γ.2.1 + k1) (cs := arrV Γ.2.2.2.1.1 n0 (fun j => .int (h.1 k0 j))) (cd := arrV Γ.2.2.2.1.1 n1 (fun j => .int (h.1 k1 j))) (srcPos := sp) (destPos := dp) (n := n) (by rw [hT]; exact hc0) (by rw [hT]; exact hc1)
    (fun _ h => by cases h) (fun _ h => by cases h) (fun h => by cases h) (fun h => by cases h) hkA hkA hkkA hkkA (by rfl) h1 h2 h3
    (by rw [nn sp h1, nn n h3, arrV_size]; omega)
    (by rw [nn dp h2, nn n h3, arrV_size]; omega)
    (fun vm₁ _ i hi => by
      have e : (arrV Γ.2.2.2.1.1 n0 (fun j => .int (h.1 k0 j))).slots.getD (sp.toNatClampNeg + i) .null = .int (h.1 k0 (sp.toNatClampNeg + i)) := by
        rw [Array.getD_eq_getD_getElem?, arrV_read _ _ (by omega)]
        rfl
      refine ⟨?_, ?_⟩
      · rw [e]
        rfl
      · rw [e]
        exact trivial)
    (g := F0 m pc ls (.int n :: .int dp :: .ref (Γ.2.1 + k1) :: .int sp :: .ref (Γ.2.1 + k0) :: st.map (sk_cv Γ))) rfl (by rw [E.2.2.2.1]; exact hL.1) (rest := st.map (sk_cv Γ)) rfl (by rw [E.2.1]; exact hd) hf (by show 2 * 0 + ((st.map (sk_cv Γ)).map fun v => v.category).sum + _ ≤ _; rw [sk_cat_sum]; omega)
  have e1 : copied (arrV Γ.2.2.2.1.1 n0 (fun j => .int (h.1 k0 j))) (arrV Γ.2.2.2.1.1 n1 (fun j => .int (h.1 k1 j))) sp dp n = arrV Γ.2.2.2.1.1 n1 (fun j => .int (va_cpy (h.1 k0) (h.1 k1) sp.toNatClampNeg dp.toNatClampNeg n.toNatClampNeg j)) := va_copied (fun z => .int z) _ _ _ _ h4
  rw [e1] at X' step
  have hlt : Γ.2.1 + k1 < H.size := (Array.getElem?_eq_some_iff.mp hc1).1
  generalize hcell : arrV Γ.2.2.2.1.1 n1 (fun j => .int (va_cpy (h.1 k0) (h.1 k1) sp.toNatClampNeg dp.toNatClampNeg n.toNatClampNeg j)) = cell at X' step
  have hheap : ((T.setVm vm').setCell (Γ.2.1 + k1) cell).heap = H.setIfInBounds (Γ.2.1 + k1) cell := by rw [← hT]; rfl
  have oq : ∀ q : Nat, q ≠ Γ.2.1 + k1 → (H.setIfInBounds (Γ.2.1 + k1) cell)[q]? = H[q]? := fun q hq => by simp [Array.getElem?_setIfInBounds, Ne.symm hq]
  have z : (H.setIfInBounds (Γ.2.1 + k1) cell).size = H.size := by simp
  obtain ⟨t, a1, b1⟩ := kk p e s m args below meth c (H.setIfInBounds (Γ.2.1 + k1) cell) _ ls E (hR.put hk1 rfl (fun a ha => by show (if a = k1 then _ else h.1 a) = h.1 a; rw [if_neg ha]) (fun _ _ => rfl) z oq (by
      show (H.setIfInBounds (Γ.2.1 + k1) cell)[Γ.2.1 + k1]? = some (arrV _ n1 (fun j => .int ((if k1 = k1 then va_cpy (h.1 k0) (h.1 k1) sp.toNatClampNeg dp.toNatClampNeg n.toNatClampNeg else h.1 k1) j)))
      rw [if_pos rfl, hcell]
      simp [Array.getElem?_setIfInBounds, hlt])) ⟨by rw [z]; exact hS.1, fun q g1 g2 => by
      rw [oq q (fun e => g2 (by rw [e]; exact Nat.le_add_right _ _))]
      exact hS.2.1 q g1 g2, fun q hq => by
      rcases List.mem_append.mp hq with hq | hq
      · exact hS.2.2 q hq
      · obtain ⟨z0, -, hz⟩ := List.mem_map.mp hq
        rw [← hz]
        exact Nat.le_add_right _ _⟩ hL _ hheap X'
  exact ⟨t, step t a1, b1⟩
end CROWS
section RETS
variable {Γ : sk_Cx} {μ : sk_Mt} {Q : Option Value → sk_Hp → Prop} {u : Nat × Nat} {pc : Nat} {L : List (Option Value)} {h : sk_Hp}
theorem go_iret {v : Int32} (hd : decode μ.2.1 pc = .ok (.ireturn, 1)) (hr : μ.2.2.2.1 = some .int) (h1 : u.1 ≤ μ.2.2.2.2.2.1) (h2 : u.2 ≤ μ.2.2.2.2.2.2) (q : Q (some (.int v)) h) : sk_Go Γ (sk_M Γ μ Q) u pc L [.int v] h := by
  intro p e s m args below meth c H locs ls E hR hS hL
  exact W.widen (k := μ.2.2.2.2.2.1) (n := μ.2.2.2.2.2.2) h1 h2 (W.iret (v := v) E.1 E.2.1 (E.2.2.1.trans hr) (fun t ht hW => ⟨⟨some (.int v), h, rfl, q, by rw [ht]; exact hR⟩, hS.F ht⟩) hS.2.2 hd (hlocks := E.2.2.2.2.2.2.1))
theorem go_zret {v : Int32} (hd : decode μ.2.1 pc = .ok (.ireturn, 1)) (hr : μ.2.2.2.1 = some .boolean) (hn : narrow .boolean (.int v) = .int v) (h1 : u.1 ≤ μ.2.2.2.2.2.1) (h2 : u.2 ≤ μ.2.2.2.2.2.2) (q : Q (some (.int v)) h) : sk_Go Γ (sk_M Γ μ Q) u pc L [.int v] h := by
  intro p e s m args below meth c H locs ls E hR hS hL
  exact W.widen (k := μ.2.2.2.2.2.1) (n := μ.2.2.2.2.2.2) h1 h2 (W.zret (v := v) E.1 E.2.1 (E.2.2.1.trans hr) hn (fun t ht hW => ⟨⟨some (.int v), h, rfl, q, by rw [ht]; exact hR⟩, hS.F ht⟩) hS.2.2 hd (hlocks := E.2.2.2.2.2.2.1))
theorem go_lret {v : Int64} (hd : decode μ.2.1 pc = .ok (.lreturn, 1)) (hr : μ.2.2.2.1 = some .long) (h1 : u.1 ≤ μ.2.2.2.2.2.1) (h2 : u.2 ≤ μ.2.2.2.2.2.2) (q : Q (some (.long v)) h) : sk_Go Γ (sk_M Γ μ Q) u pc L [.long v] h := by
  intro p e s m args below meth c H locs ls E hR hS hL
  exact W.widen (k := μ.2.2.2.2.2.1) (n := μ.2.2.2.2.2.2) h1 h2 (W.lret (v := v) E.1 E.2.1 (E.2.2.1.trans hr) (fun t ht hW => ⟨⟨some (.long v), h, rfl, q, by rw [ht]; exact hR⟩, hS.F ht⟩) hS.2.2 hd (hlocks := E.2.2.2.2.2.2.1))
theorem go_vret (hd : decode μ.2.1 pc = .ok (.return_, 1)) (hr : μ.2.2.2.1 = none) (h1 : u.1 ≤ μ.2.2.2.2.2.1) (h2 : u.2 ≤ μ.2.2.2.2.2.2) (q : Q none h) : sk_Go Γ (sk_M Γ μ Q) u pc L [] h := by
  intro p e s m args below meth c H locs ls E hR hS hL
  exact W.widen (k := μ.2.2.2.2.2.1) (n := μ.2.2.2.2.2.2) h1 h2 (W.vret E.1 E.2.1 (E.2.2.1.trans hr) (fun t ht hW => ⟨⟨none, h, rfl, q, by rw [ht]; exact hR⟩, hS.F ht⟩) hS.2.2 hd (hlocks := E.2.2.2.2.2.2.1))
/-- a contract whose end says less -/
theorem sk_Ct.mono {av : List Value} {Q' : Option Value → sk_Hp → Prop} (hc : sk_Ct Γ μ av h Q) (hq : ∀ r h', Q r h' → Q' r h') : sk_Ct Γ μ av h Q' := by
  unfold sk_Ct Met at hc ⊢
  refine MetFree.mono hc (fun _ _ h => h) (fun _ _ _ _ _ h => h) (fun a st o t _ q => ?_)
  obtain ⟨⟨⟨r, h', e, q1, q2⟩, q3⟩, q4⟩ := q
  exact ⟨⟨⟨r, h', e, hq r h' q1, q2⟩, q3⟩, q4⟩
end RETS
