/-! A heap by places: ints, references, kinds (0, class), (1, n) ints, (2, n) booleans, (3, n) references to Sky. Place k lies at the address base + k. -/
abbrev sk_Hp : Type := (Nat → Nat → Int32) × (Nat → Nat → Option Nat) × List (Nat × Nat)
/-- launch, base, slots of the classes, array classes, the script's address -/
abbrev sk_Cx : Type := Launch × Nat × va_G × (ClassId × ClassId × ClassId) × Nat
def sk_cv (Γ : sk_Cx) (v : Value) : Value := match v with
  | .ref k => .ref (Γ.2.1 + k)
  | .float _ => .ref Γ.2.2.2.2
  | z => z
theorem sk_cv_cat (Γ : sk_Cx) (v : Value) : (sk_cv Γ v).category = v.category := by cases v <;> rfl
def sk_ty (ci : Nat) : Nat → FieldType := match ci with
  | 0 => tyX0
  | 1 => tyX2
  | 2 => tyX3
  | 3 => tyX4
  | 4 => tyX5
  | 5 => tyX6
  | 6 => tyX7
  | 7 => tyX8
  | _ => tyX9
def sk_isI (t : FieldType) : Bool := match t with
  | .int => true
  | _ => false
def sk_rf (Γ : sk_Cx) (r : Option Nat) : Value := va_rf (r.map (fun k => Γ.2.1 + k))
def sk_fv (Γ : sk_Cx) (h : sk_Hp) (k ci : Nat) : Nat → Value := fun j => if sk_isI (sk_ty ci j) = true then .int (h.1 k j) else sk_rf Γ (h.2.1 k j)
def sk_at (Γ : sk_Cx) (h : sk_Hp) (k : Nat) (kd : Nat × Nat) (H : Heap) : Prop := match kd.1 with
  | 0 => ∃ r : vw_C, vwCl[kd.2]? = some r ∧ t_OB (Γ.2.1 + k) (Γ.2.2.1.1 kd.2) r.2.2 (Γ.2.2.1.2 kd.2) H (sk_fv Γ h k kd.2)
  | 1 => H[Γ.2.1 + k]? = some (arrV Γ.2.2.2.1.1 kd.2 (fun j => .int (h.1 k j)))
  | 2 => H[Γ.2.1 + k]? = some (arrV Γ.2.2.2.1.2.1 kd.2 (fun j => .int (h.1 k j)))
  | _ => H[Γ.2.1 + k]? = some (arrV Γ.2.2.2.1.2.2 kd.2 (fun j => sk_rf Γ (h.2.1 k j)))
def sk_Rp (Γ : sk_Cx) (h : sk_Hp) (H : Heap) : Prop := H.size = Γ.2.1 + h.2.2.length ∧ ∀ (k : Nat) (kd : Nat × Nat), h.2.2[k]? = some kd → sk_at Γ h k kd H
/-- the constructors of nest mates -/
def sk_nw : List (String × Nat × MethodName) := [("SkyEcho", 9, ⟨"SkyEcho$Sky", "<init>", "()V"⟩), ("SkyEcho$Sky", 9, ⟨"SkyEcho$Boards", "<init>", "()V"⟩), ("SkyEcho$Sky", 25, ⟨"SkyEcho$Stations", "<init>", "()V"⟩), ("SkyEcho", 22, ⟨"SkyEcho$TraceFinder", "<init>", "()V"⟩), ("SkyEcho", 29, ⟨"SkyEcho$TrueHeights", "<init>", "()V"⟩), ("SkyEcho", 36, ⟨"SkyEcho$MiddleFinder", "<init>", "()V"⟩)]
def sk_K (Γ : sk_Cx) (U : State) : Prop := va_K Γ.2.2.1 vwCl [(Γ.2.2.2.1.1, .int), (Γ.2.2.2.1.2.1, .boolean), (Γ.2.2.2.1.2.2, .object "SkyEcho$Sky")] U ∧ (∀ z ∈ sk_nw, va_Nw (.methodLinkNest z.1 z.2.1 z.2.2 "SkyEcho") U) ∧ va_AO "SkyEcho$Sky" U
theorem sk_K.warm {Γ : sk_Cx} {s U : State} (hW : s.WarmedH U.vm) (h : sk_K Γ s) : sk_K Γ U := ⟨va_K.moved hW.alike h.1, fun z hz => va_Nw.warmM hW (h.2.1 z hz), va_AO.moved hW.alike h.2.2⟩
/-- the tables' words that stay -/
def lw_g : List Cond := lw_tbl.filter goodWord
theorem sk_in {z : Cond} (h : z ∈ lw_tbl) (hg : goodWord z = true) : z ∈ lw_g := List.mem_filter.mpr ⟨h, hg⟩
abbrev sk_A (Γ : sk_Cx) : Nat → Prop := fun q => Γ.2.1 ≤ q
/-! locals -/
def sk_cl (L : List (Option Value)) (i : Nat) : List (Option Value) := match i with
  | 0 => L
  | j + 1 => match L[j]? with
    | some (some z) => if z.category = 2 then L.set j none else L
    | _ => L
def sk_s1 (L : List (Option Value)) (i : Nat) (v : Value) : List (Option Value) := (sk_cl L i).set i (some v)
def sk_s2 (L : List (Option Value)) (i : Nat) (v : Value) : List (Option Value) := ((sk_cl L i).set i (some v)).set (i + 1) none
def sk_HL (Γ : sk_Cx) (ls : Array Slot) (n : Nat) (L : List (Option Value)) : Prop := ls.size = n ∧ lv_wf ls ∧ ∀ (i : Nat) (v : Value), L[i]? = some (some v) → ls[i]? = some (.val (sk_cv Γ v))
def sk_ll (Γ : sk_Cx) (L : List (Option Value)) : List (Nat × Value) := (List.range L.length).filterMap fun j => match L[j]? with
  | some (some z) => some (j, sk_cv Γ z)
  | _ => none
theorem sk_ll_mem {Γ : sk_Cx} {L : List (Option Value)} {q : Nat × Value} : q ∈ sk_ll Γ L ↔ ∃ z, L[q.1]? = some (some z) ∧ q.2 = sk_cv Γ z := by
  unfold sk_ll
  rw [List.mem_filterMap]
  constructor
  · rintro ⟨j, hj, h⟩
    split at h
    · rename_i z hz
      cases h
      exact ⟨z, hz, rfl⟩
    · cases h
  · rintro ⟨z, hz, he⟩
    refine ⟨q.1, List.mem_range.mpr (List.getElem?_eq_some_iff.mp hz).1, ?_⟩
    rw [hz]
    show some (q.1, sk_cv Γ z) = some q
    rw [← he]
theorem sk_HL.has {Γ : sk_Cx} {ls : Array Slot} {n : Nat} {L : List (Option Value)} (h : sk_HL Γ ls n L) : lv_has ls n (sk_ll Γ L) := by
  refine ⟨h.1, h.2.1, fun q hq => ?_⟩
  obtain ⟨z, hz, he⟩ := sk_ll_mem.mp hq
  rw [he]
  exact h.2.2 _ _ hz
theorem sk_cl_get {L : List (Option Value)} {i j : Nat} {z : Value} (h : (sk_cl L i)[j]? = some (some z)) : L[j]? = some (some z) ∧ ¬ (j + 1 = i ∧ z.category = 2) := by
  cases i with
  | zero => exact ⟨h, by omega⟩
  | succ n =>
    unfold sk_cl at h
    simp only at h
    split at h
    · rename_i y hy
      split at h
      · rename_i hc
        by_cases hj : j = n
        · subst hj
          rw [List.getElem?_set_self (List.getElem?_eq_some_iff.mp hy).1] at h
          cases h
        · rw [List.getElem?_set_ne (Ne.symm hj)] at h
          exact ⟨h, by omega⟩
      · rename_i hc
        refine ⟨h, ?_⟩
        rintro ⟨e, hz⟩
        have : j = n := by omega
        subst this
        rw [hy] at h
        cases h
        exact hc hz
    · rename_i hy
      refine ⟨h, ?_⟩
      rintro ⟨e, hz⟩
      have : j = n := by omega
      subst this
      exact hy z h
theorem sk_back1 {Γ : sk_Cx} {ls : Array Slot} {n i : Nat} {L : List (Option Value)} {v : Value} (h : lv_has ls n ((i, sk_cv Γ v) :: (sk_ll Γ L).filter (fun q => !(q.1 == i) && !(q.1 + 1 == i && q.2.category == 2)))) : sk_HL Γ ls n (sk_s1 L i v) := by
  refine ⟨h.1, h.2.1, fun j z hz => ?_⟩
  unfold sk_s1 at hz
  by_cases hj : j = i
  · subst hj
    have hl : j < ((sk_cl L j).set j (some v)).length := (List.getElem?_eq_some_iff.mp hz).1
    rw [List.length_set] at hl
    rw [List.getElem?_set_self hl] at hz
    cases hz
    exact h.2.2 (j, sk_cv Γ v) List.mem_cons_self
  · rw [List.getElem?_set_ne (Ne.symm hj)] at hz
    obtain ⟨h1, h2⟩ := sk_cl_get hz
    refine h.2.2 (j, sk_cv Γ z) (List.mem_cons_of_mem _ (List.mem_filter.mpr ⟨sk_ll_mem.mpr ⟨z, h1, rfl⟩, ?_⟩))
    show (!(j == i) && !(j + 1 == i && (sk_cv Γ z).category == 2)) = true
    rw [sk_cv_cat]
    simp only [Bool.and_eq_true, Bool.not_eq_true', beq_eq_false_iff_ne, ne_eq, Bool.and_eq_false_iff]
    refine ⟨hj, ?_⟩
    by_cases he : j + 1 = i
    · exact Or.inr (fun q => h2 ⟨he, q⟩)
    · exact Or.inl he
theorem sk_back2 {Γ : sk_Cx} {ls : Array Slot} {n i : Nat} {L : List (Option Value)} {v : Value} (h : lv_has ls n ((i, sk_cv Γ v) :: (sk_ll Γ L).filter (fun q => !(q.1 == i) && (!(q.1 == i + 1) && !(q.1 + 1 == i && q.2.category == 2))))) : sk_HL Γ ls n (sk_s2 L i v) := by
  refine ⟨h.1, h.2.1, fun j z hz => ?_⟩
  unfold sk_s2 at hz
  by_cases hj1 : j = i + 1
  · subst hj1
    have hl : i + 1 < (((sk_cl L i).set i (some v)).set (i + 1) none).length := (List.getElem?_eq_some_iff.mp hz).1
    rw [List.length_set] at hl
    rw [List.getElem?_set_self hl] at hz
    cases hz
  · rw [List.getElem?_set_ne (Ne.symm hj1)] at hz
    by_cases hj : j = i
    · subst hj
      have hl : j < ((sk_cl L j).set j (some v)).length := (List.getElem?_eq_some_iff.mp hz).1
      rw [List.length_set] at hl
      rw [List.getElem?_set_self hl] at hz
      cases hz
      exact h.2.2 (j, sk_cv Γ v) List.mem_cons_self
    · rw [List.getElem?_set_ne (Ne.symm hj)] at hz
      obtain ⟨h1, h2⟩ := sk_cl_get hz
      refine h.2.2 (j, sk_cv Γ z) (List.mem_cons_of_mem _ (List.mem_filter.mpr ⟨sk_ll_mem.mpr ⟨z, h1, rfl⟩, ?_⟩))
      show (!(j == i) && (!(j == i + 1) && !(j + 1 == i && (sk_cv Γ z).category == 2))) = true
      rw [sk_cv_cat]
      simp only [Bool.and_eq_true, Bool.not_eq_true', beq_eq_false_iff_ne, ne_eq, Bool.and_eq_false_iff]
      refine ⟨hj, hj1, ?_⟩
      by_cases he : j + 1 = i
      · exact Or.inr (fun q => h2 ⟨he, q⟩)
      · exact Or.inl he
/-- the locals at a method's entry -/
def sk_e0 (av : List Value) : List (Option Value) := av.flatMap fun v => if v.category = 2 then [some v, none] else [some v]
def sk_en (n : Nat) (av : List Value) : List (Option Value) := sk_e0 av ++ List.replicate (n - (sk_e0 av).length) none
theorem sk_e0_args {Γ : sk_Cx} : ∀ (av : List Value) (d i : Nat) (v : Value), (sk_e0 av)[i]? = some (some v) → (d + i, sk_cv Γ v) ∈ lv_args d (av.map (sk_cv Γ)) := by
  intro av
  induction av with
  | nil => intro d i v h; simp [sk_e0] at h
  | cons a t ih =>
    intro d i v h
    have e : sk_e0 (a :: t) = (if a.category = 2 then [some a, none] else [some a]) ++ sk_e0 t := rfl
    rw [e] at h
    show _ ∈ (d, sk_cv Γ a) :: lv_args (if (sk_cv Γ a).category = 2 then d + 2 else d + 1) (t.map (sk_cv Γ))
    rw [sk_cv_cat]
    by_cases hc : a.category = 2
    · rw [if_pos hc] at h ⊢
      match i, h with
      | 0, h => cases h; exact List.mem_cons_self
      | 1, h => cases h
      | i + 2, h =>
        have := ih (d + 2) i v h
        rw [show d + 2 + i = d + (i + 2) by omega] at this
        exact List.mem_cons_of_mem _ this
    · rw [if_neg hc] at h ⊢
      match i, h with
      | 0, h => cases h; exact List.mem_cons_self
      | i + 1, h =>
        have := ih (d + 1) i v h
        rw [show d + 1 + i = d + (i + 1) by omega] at this
        exact List.mem_cons_of_mem _ this
theorem sk_sl_len {Γ : sk_Cx} (av : List Value) : (lg_sl (av.map (sk_cv Γ))).length = (sk_e0 av).length := by
  induction av with
  | nil => rfl
  | cons a t ih =>
    have e1 : lg_sl ((a :: t).map (sk_cv Γ)) = (if (sk_cv Γ a).category = 2 then [.val (sk_cv Γ a), .second] else [.val (sk_cv Γ a)]) ++ lg_sl (t.map (sk_cv Γ)) := rfl
    have e2 : sk_e0 (a :: t) = (if a.category = 2 then [some a, none] else [some a]) ++ sk_e0 t := rfl
    rw [e1, e2, List.length_append, List.length_append, ih, sk_cv_cat]
    by_cases hc : a.category = 2
    · rw [if_pos hc, if_pos hc]; rfl
    · rw [if_neg hc, if_neg hc]; rfl
theorem sk_entry {Γ : sk_Cx} (av : List Value) {n : Nat} (hn : (sk_e0 av).length ≤ n) : sk_HL Γ ((lg_sl (av.map (sk_cv Γ)) ++ List.replicate (n - (lg_sl (av.map (sk_cv Γ))).length) Slot.unset).toArray) n (sk_en n av) := by
  have h := lv_entry (av.map (sk_cv Γ)) (n := n) (by rw [sk_sl_len]; exact hn)
  refine ⟨h.1, h.2.1, fun i v hi => ?_⟩
  unfold sk_en at hi
  have h1 : (sk_e0 av)[i]? = some (some v) := by
    by_cases hl : i < (sk_e0 av).length
    · rw [List.getElem?_append_left hl] at hi
      exact hi
    · rw [List.getElem?_append_right (by omega)] at hi
      have := List.mem_of_getElem? hi
      have := List.eq_of_mem_replicate this
      cases this
  have h2 := sk_e0_args (Γ := Γ) av 0 i v h1
  rw [Nat.zero_add] at h2
  exact h.2.2 _ h2
/-! a method; its frame; its contract -/
/-- name, code, locals, answer, depth of calls below it, new cells, their slots -/
abbrev sk_Mt : Type := MethodName × ByteArray × Nat × Option FieldType × Nat × Nat × Nat
def sk_rm (μ : sk_Mt) : Room := { frames := μ.2.2.2.2.1, cells := μ.2.2.2.2.2.1, slots := μ.2.2.2.2.2.2, locals := 37 * μ.2.2.2.2.1 }
/-- code, locals, answer, class, is it a constructor, room, what is to come, what holds at the entry -/
abbrev sk_Px : Type := ByteArray × Nat × Option FieldType × String × Bool × Room × (List Frame → Array Value → State → State → Prop) × (Array Value → State → Prop)
def sk_Ev (Γ : sk_Cx) (X : sk_Px) (p : Program) (s : State) (m : MethodId) (args : Array Value) (meth : Method) (c : Code) : Prop :=
  p.tables.exec = Jvm.exec ∧ c.code = X.1 ∧ meth.sig.returnType = X.2.2.1 ∧ c.maxLocals = X.2.1 ∧ s.vm.findClass X.2.2.2.1 = some m.cls ∧ (∀ z ∈ lw_g, z.before args s = true) ∧ meth.locks = false ∧ (X.2.2.2.2.1 = true → meth.name = "<init>") ∧ sk_K Γ s ∧ X.2.2.2.2.2.2.2 args s ∧ Γ.2.1 ≤ s.heap.size
def sk_Go (Γ : sk_Cx) (X : sk_Px) (u : Nat × Nat) (pc : Nat) (L : List (Option Value)) (st : List Value) (h : sk_Hp) : Prop :=
  ∀ (p : Program) (e : Env) (s : State) (m : MethodId) (args : Array Value) (below : List Frame) (meth : Method) (c : Code) (H : Heap) (locs : List Loc) (ls : Array Slot),
    sk_Ev Γ X p s m args meth c → sk_Rp Γ h H → va_S (sk_A Γ) s.heap H locs → sk_HL Γ ls X.2.1 L →
    W p Γ.1 e X.2.2.2.2.2.1 s m args below meth c H locs u.1 u.2 (X.2.2.2.2.2.2.1 below args s) (F0 m pc ls (st.map (sk_cv Γ)))
def sk_Qc (Γ : sk_Cx) (Q : Option Value → sk_Hp → Prop) : Array Value → State → Outcome → State → Prop := fun _ st oc t =>
  (∃ (r : Option Value) (h' : sk_Hp), oc = .returned (r.map (sk_cv Γ)) ∧ Q r h' ∧ sk_Rp Γ h' t.heap) ∧ va_F (sk_A Γ) st t
def sk_M (Γ : sk_Cx) (μ : sk_Mt) (Q : Option Value → sk_Hp → Prop) : sk_Px :=
  (μ.2.1, μ.2.2.1, μ.2.2.2.1, μ.1.cls, decide (μ.1.name = "<init>"), sk_rm μ, fun below args s => MQ below (sk_Qc Γ Q) args s μ.2.2.2.2.2.1 μ.2.2.2.2.2.2 (sk_A Γ), fun _ _ => True)
def sk_Ct (Γ : sk_Cx) (μ : sk_Mt) (av : List Value) (h : sk_Hp) (Q : Option Value → sk_Hp → Prop) : Prop :=
  Met Γ.1 μ.1 (Cond.code μ.1 μ.2.1 μ.2.2.1 μ.2.2.2.1 :: lw_g) (sk_rm μ) (va_Pc (av.map (sk_cv Γ)) (fun U => sk_Rp Γ h U.heap ∧ sk_K Γ U)) (sk_Qc Γ Q) μ.2.2.2.2.2.1 μ.2.2.2.2.2.2 (sk_A Γ)
theorem sk_Ct.of {Γ : sk_Cx} {μ : sk_Mt} {av : List Value} {h : sk_Hp} {Q : Option Value → sk_Hp → Prop} (hy : plainName μ.1.cls = true) (hn : (sk_e0 av).length ≤ μ.2.2.1) (k : sk_Go Γ (sk_M Γ μ Q) (0, 0) 0 (sk_en μ.2.2.1 av) [] h) : sk_Ct Γ μ av h Q := by
  refine Met.ofW (cc := μ.2.1) (maxL := μ.2.2.1) (ret := μ.2.2.2.1) hy rfl ?_
  intro p e s m args below meth c s₁ B hml hv
  obtain ⟨rfl, hP, hK⟩ := hv
  rw [lg_entry_eq]
  have hts := atoms_spec (ws := Cond.code μ.1 μ.2.1 μ.2.2.1 μ.2.2.2.1 :: lw_g) B.pre
  refine k p e s m _ below meth c s.heap [] _ ⟨B.exec, B.bytes, B.returns, hml, findClass_of_methodNamed B.named, fun z hz => hts z (List.mem_cons_of_mem _ hz), B.notSynchronized, fun hi => ?_, hK, trivial, ?_⟩ hP va_S.rf (sk_entry av hn)
  · rw [(name_of_methodNamed B.named B.method).1]
    exact of_decide_eq_true hi
  · rw [hP.1]
    exact Nat.le_add_right _ _
theorem sk_blind {Γ : sk_Cx} {av : List Value} {h : sk_Hp} : FrameBlind (va_Pc (av.map (sk_cv Γ)) (fun U => sk_Rp Γ h U.heap ∧ sk_K Γ U)) := fun a U g mk q => ⟨q.1, q.2.1, va_K.moved (u := U) (U := U.calling g mk a) (Vm.Alike.refl U.vm) q.2.2.1, fun z hz => va_tabs (u := U) (U := U.calling g mk a) rfl rfl (q.2.2.2.1 z hz), va_AO.moved (u := U) (U := U.calling g mk a) (Vm.Alike.refl U.vm) q.2.2.2.2⟩
theorem sk_good : GoodIn lw_g lw_g := fun z hz => ⟨hz, good_of_word (List.mem_filter.mp hz).2⟩
section ROWS
variable {Γ : sk_Cx} {X : sk_Px} {u : Nat × Nat} {pc : Nat} {L : List (Option Value)} {st : List Value} {h : sk_Hp}

theorem go_iconst {n : Int} (hd : decode X.1 pc = .ok (.iconst n, 1)) {v : Int32} (hv : Int32.ofInt n = v) (k : sk_Go Γ X u (pc + 1) L (.int v :: st) h) : sk_Go Γ X u pc L st h := fun p e s m args below meth c H locs ls E hR hS hL => lv_iconst E.1 E.2.1 hd hv (k p e s m args below meth c H locs ls E hR hS hL)
theorem go_bipush {n : Int} (hd : decode X.1 pc = .ok (.bipush n, 2)) {v : Int32} (hv : (Int8.ofInt n).toInt32 = v) (k : sk_Go Γ X u (pc + 2) L (.int v :: st) h) : sk_Go Γ X u pc L st h := fun p e s m args below meth c H locs ls E hR hS hL => lv_bipush E.1 E.2.1 hd hv (k p e s m args below meth c H locs ls E hR hS hL)
theorem go_sipush {n : Int} (hd : decode X.1 pc = .ok (.sipush n, 3)) {v : Int32} (hv : (Int16.ofInt n).toInt32 = v) (k : sk_Go Γ X u (pc + 3) L (.int v :: st) h) : sk_Go Γ X u pc L st h := fun p e s m args below meth c H locs ls E hR hS hL => lv_sipush E.1 E.2.1 hd hv (k p e s m args below meth c H locs ls E hR hS hL)
theorem go_lconst {n : Fin 2} (hd : decode X.1 pc = .ok (.lconst n, 1)) {v : Int64} (hv : Int64.ofNat (n : Nat) = v) (k : sk_Go Γ X u (pc + 1) L (.long v :: st) h) : sk_Go Γ X u pc L st h := fun p e s m args below meth c H locs ls E hR hS hL => lv_lconst E.1 E.2.1 hd hv (k p e s m args below meth c H locs ls E hR hS hL)
theorem go_ldc {index : Nat} {v : Int32} (hd : decode X.1 pc = .ok (.ldc index, 2)) (hc : Cond.constant X.2.2.2.1 index v ∈ lw_g) (k : sk_Go Γ X u (pc + 2) L (.int v :: st) h) : sk_Go Γ X u pc L st h := fun p e s m args below meth c H locs ls E hR hS hL => lv_ldc E.1 E.2.1 E.2.2.2.2.1 (E.2.2.2.2.2.1 _ hc) hd (k p e s m args below meth c H locs ls E hR hS hL)
theorem go_ldcw {index : Nat} {v : Int32} (hd : decode X.1 pc = .ok (.ldc_w index, 3)) (hc : Cond.constant X.2.2.2.1 index v ∈ lw_g) (k : sk_Go Γ X u (pc + 3) L (.int v :: st) h) : sk_Go Γ X u pc L st h := fun p e s m args below meth c H locs ls E hR hS hL => lv_ldcw E.1 E.2.1 E.2.2.2.2.1 (E.2.2.2.2.2.1 _ hc) hd (k p e s m args below meth c H locs ls E hR hS hL)
theorem go_ldc2 {index : Nat} {v : Int64} (hd : decode X.1 pc = .ok (.ldc2_w index, 3)) (hc : Cond.constantLong X.2.2.2.1 index v ∈ lw_g) (k : sk_Go Γ X u (pc + 3) L (.long v :: st) h) : sk_Go Γ X u pc L st h := fun p e s m args below meth c H locs ls E hR hS hL => lv_ldc2 E.1 E.2.1 E.2.2.2.2.1 (E.2.2.2.2.2.1 _ hc) hd (k p e s m args below meth c H locs ls E hR hS hL)
theorem go_iload_n {i : Fin 4} {x : Int32} (hd : decode X.1 pc = .ok (.iload_n i, 1)) (hl : L[(i : Nat)]? = some (some (.int x))) (k : sk_Go Γ X u (pc + 1) L (.int x :: st) h) : sk_Go Γ X u pc L st h := fun p e s m args below meth c H locs ls E hR hS hL => lv_iload_n E.1 E.2.1 hd rfl (hL.2.2 _ _ hl) (k p e s m args below meth c H locs ls E hR hS hL)
theorem go_lload_n {i : Fin 4} {x : Int64} (hd : decode X.1 pc = .ok (.lload_n i, 1)) (hl : L[(i : Nat)]? = some (some (.long x))) (k : sk_Go Γ X u (pc + 1) L (.long x :: st) h) : sk_Go Γ X u pc L st h := fun p e s m args below meth c H locs ls E hR hS hL => lv_lload_n E.1 E.2.1 hd rfl (hL.2.2 _ _ hl) (k p e s m args below meth c H locs ls E hR hS hL)
theorem go_iload {i : Nat} {x : Int32} (hd : decode X.1 pc = .ok (.iload i, 2)) (hl : L[i]? = some (some (.int x))) (k : sk_Go Γ X u (pc + 2) L (.int x :: st) h) : sk_Go Γ X u pc L st h := fun p e s m args below meth c H locs ls E hR hS hL => lv_iload E.1 E.2.1 hd (hL.2.2 _ _ hl) (k p e s m args below meth c H locs ls E hR hS hL)
theorem go_lload {i : Nat} {x : Int64} (hd : decode X.1 pc = .ok (.lload i, 2)) (hl : L[i]? = some (some (.long x))) (k : sk_Go Γ X u (pc + 2) L (.long x :: st) h) : sk_Go Γ X u pc L st h := fun p e s m args below meth c H locs ls E hR hS hL => lv_lload E.1 E.2.1 hd (hL.2.2 _ _ hl) (k p e s m args below meth c H locs ls E hR hS hL)
theorem go_aload_n {i : Fin 4} {x : Nat} (hd : decode X.1 pc = .ok (.aload_n i, 1)) (hl : L[(i : Nat)]? = some (some (.ref x))) (k : sk_Go Γ X u (pc + 1) L (.ref x :: st) h) : sk_Go Γ X u pc L st h := fun p e s m args below meth c H locs ls E hR hS hL => lv_aload_n E.1 E.2.1 hd rfl (hL.2.2 _ _ hl) (k p e s m args below meth c H locs ls E hR hS hL)
theorem go_aload_x {i : Fin 4} {x : UInt32} (hd : decode X.1 pc = .ok (.aload_n i, 1)) (hl : L[(i : Nat)]? = some (some (.float x))) (k : sk_Go Γ X u (pc + 1) L (.float x :: st) h) : sk_Go Γ X u pc L st h := fun p e s m args below meth c H locs ls E hR hS hL => lv_aload_n E.1 E.2.1 hd rfl (hL.2.2 _ _ hl) (k p e s m args below meth c H locs ls E hR hS hL)
theorem go_aload_nN {i : Fin 4} (hd : decode X.1 pc = .ok (.aload_n i, 1)) (hl : L[(i : Nat)]? = some (some .null)) (k : sk_Go Γ X u (pc + 1) L (.null :: st) h) : sk_Go Γ X u pc L st h := fun p e s m args below meth c H locs ls E hR hS hL => lv_aload_nN E.1 E.2.1 hd rfl (hL.2.2 _ _ hl) (k p e s m args below meth c H locs ls E hR hS hL)
theorem go_istore_n {i : Fin 4} {x : Int32} (hd : decode X.1 pc = .ok (.istore_n i, 1)) (hi : (i : Nat) < X.2.1) (k : sk_Go Γ X u (pc + 1) (sk_s1 L (i : Nat) (.int x)) st h) : sk_Go Γ X u pc L (.int x :: st) h := fun p e s m args below meth c H locs ls E hR hS hL => lv_istore_n E.1 E.2.1 hd rfl hL.has hi rfl (fun ls' h' => k p e s m args below meth c H locs ls' E hR hS (sk_back1 (v := .int x) h'))
theorem go_lstore_n {i : Fin 4} {x : Int64} (hd : decode X.1 pc = .ok (.lstore_n i, 1)) (hi : (i : Nat) + 1 < X.2.1) (k : sk_Go Γ X u (pc + 1) (sk_s2 L (i : Nat) (.long x)) st h) : sk_Go Γ X u pc L (.long x :: st) h := fun p e s m args below meth c H locs ls E hR hS hL => lv_lstore_n E.1 E.2.1 hd rfl hL.has hi rfl (fun ls' h' => k p e s m args below meth c H locs ls' E hR hS (sk_back2 (v := .long x) h'))
theorem go_astore_n {i : Fin 4} {x : Nat} (hd : decode X.1 pc = .ok (.astore_n i, 1)) (hi : (i : Nat) < X.2.1) (k : sk_Go Γ X u (pc + 1) (sk_s1 L (i : Nat) (.ref x)) st h) : sk_Go Γ X u pc L (.ref x :: st) h := fun p e s m args below meth c H locs ls E hR hS hL => lv_astore_n E.1 E.2.1 hd rfl hL.has hi rfl (fun ls' h' => k p e s m args below meth c H locs ls' E hR hS (sk_back1 (v := .ref x) h'))
theorem go_istore {i : Nat} {x : Int32} (hd : decode X.1 pc = .ok (.istore i, 2)) (hi : i < X.2.1) (k : sk_Go Γ X u (pc + 2) (sk_s1 L i (.int x)) st h) : sk_Go Γ X u pc L (.int x :: st) h := fun p e s m args below meth c H locs ls E hR hS hL => lv_istore E.1 E.2.1 hd hL.has hi rfl (fun ls' h' => k p e s m args below meth c H locs ls' E hR hS (sk_back1 (v := .int x) h'))
theorem go_lstore {i : Nat} {x : Int64} (hd : decode X.1 pc = .ok (.lstore i, 2)) (hi : i + 1 < X.2.1) (k : sk_Go Γ X u (pc + 2) (sk_s2 L i (.long x)) st h) : sk_Go Γ X u pc L (.long x :: st) h := fun p e s m args below meth c H locs ls E hR hS hL => lv_lstore E.1 E.2.1 hd hL.has hi rfl (fun ls' h' => k p e s m args below meth c H locs ls' E hR hS (sk_back2 (v := .long x) h'))
theorem go_astore_nN {i : Fin 4} (hd : decode X.1 pc = .ok (.astore_n i, 1)) (hi : (i : Nat) < X.2.1) (k : sk_Go Γ X u (pc + 1) (sk_s1 L (i : Nat) .null) st h) : sk_Go Γ X u pc L (.null :: st) h := fun p e s m args below meth c H locs ls E hR hS hL => lv_astore_nN E.1 E.2.1 hd rfl hL.has hi rfl (fun ls' h' => k p e s m args below meth c H locs ls' E hR hS (sk_back1 (v := .null) h'))
theorem go_iinc {i : Nat} {n : Int} {x v : Int32} (hd : decode X.1 pc = .ok (.iinc i n, 3)) (hl : L[i]? = some (some (.int x))) (hv : x + Int32.ofInt n = v) (hi : i < X.2.1) (k : sk_Go Γ X u (pc + 3) (sk_s1 L i (.int v)) st h) : sk_Go Γ X u pc L st h := fun p e s m args below meth c H locs ls E hR hS hL => by
  obtain ⟨q, hq⟩ := List.getElem?_of_mem (sk_ll_mem (Γ := Γ) (q := (i, .int x)).mpr ⟨.int x, hl, rfl⟩)
  exact lv_iinc E.1 E.2.1 hd hL.has hq hv hi rfl (fun ls' h' => k p e s m args below meth c H locs ls' E hR hS (sk_back1 (v := .int v) h'))
theorem go_iadd {x y : Int32} (hd : decode X.1 pc = .ok (.iadd, 1)) (k : sk_Go Γ X u (pc + 1) L (.int (x + y) :: st) h) : sk_Go Γ X u pc L (.int y :: .int x :: st) h := fun p e s m args below meth c H locs ls E hR hS hL => lv_iadd E.1 E.2.1 hd (k p e s m args below meth c H locs ls E hR hS hL)
theorem go_isub {x y : Int32} (hd : decode X.1 pc = .ok (.isub, 1)) (k : sk_Go Γ X u (pc + 1) L (.int (x - y) :: st) h) : sk_Go Γ X u pc L (.int y :: .int x :: st) h := fun p e s m args below meth c H locs ls E hR hS hL => lv_isub E.1 E.2.1 hd (k p e s m args below meth c H locs ls E hR hS hL)
theorem go_imul {x y : Int32} (hd : decode X.1 pc = .ok (.imul, 1)) (k : sk_Go Γ X u (pc + 1) L (.int (x * y) :: st) h) : sk_Go Γ X u pc L (.int y :: .int x :: st) h := fun p e s m args below meth c H locs ls E hR hS hL => lv_imul E.1 E.2.1 hd (k p e s m args below meth c H locs ls E hR hS hL)
theorem go_iand {x y : Int32} (hd : decode X.1 pc = .ok (.iand, 1)) (k : sk_Go Γ X u (pc + 1) L (.int (x &&& y) :: st) h) : sk_Go Γ X u pc L (.int y :: .int x :: st) h := fun p e s m args below meth c H locs ls E hR hS hL => lv_iand E.1 E.2.1 hd (k p e s m args below meth c H locs ls E hR hS hL)
theorem go_ior {x y : Int32} (hd : decode X.1 pc = .ok (.ior, 1)) (k : sk_Go Γ X u (pc + 1) L (.int (x ||| y) :: st) h) : sk_Go Γ X u pc L (.int y :: .int x :: st) h := fun p e s m args below meth c H locs ls E hR hS hL => lv_ior E.1 E.2.1 hd (k p e s m args below meth c H locs ls E hR hS hL)
theorem go_ixor {x y : Int32} (hd : decode X.1 pc = .ok (.ixor, 1)) (k : sk_Go Γ X u (pc + 1) L (.int (x ^^^ y) :: st) h) : sk_Go Γ X u pc L (.int y :: .int x :: st) h := fun p e s m args below meth c H locs ls E hR hS hL => lv_ixor E.1 E.2.1 hd (k p e s m args below meth c H locs ls E hR hS hL)
theorem go_ishl {x y : Int32} (hd : decode X.1 pc = .ok (.ishl, 1)) (k : sk_Go Γ X u (pc + 1) L (.int (x <<< (y &&& 31)) :: st) h) : sk_Go Γ X u pc L (.int y :: .int x :: st) h := fun p e s m args below meth c H locs ls E hR hS hL => lv_ishl E.1 E.2.1 hd (k p e s m args below meth c H locs ls E hR hS hL)
theorem go_ishr {x y : Int32} (hd : decode X.1 pc = .ok (.ishr, 1)) (k : sk_Go Γ X u (pc + 1) L (.int (x >>> (y &&& 31)) :: st) h) : sk_Go Γ X u pc L (.int y :: .int x :: st) h := fun p e s m args below meth c H locs ls E hR hS hL => lv_ishr E.1 E.2.1 hd (k p e s m args below meth c H locs ls E hR hS hL)
theorem go_iushr {x y : Int32} (hd : decode X.1 pc = .ok (.iushr, 1)) (k : sk_Go Γ X u (pc + 1) L (.int (x.toUInt32 >>> (y.toUInt32 &&& Int32.toUInt32 31)).toInt32 :: st) h) : sk_Go Γ X u pc L (.int y :: .int x :: st) h := fun p e s m args below meth c H locs ls E hR hS hL => lv_iushr E.1 E.2.1 hd rfl (k p e s m args below meth c H locs ls E hR hS hL)
theorem go_ineg {x : Int32} (hd : decode X.1 pc = .ok (.ineg, 1)) (k : sk_Go Γ X u (pc + 1) L (.int (-x) :: st) h) : sk_Go Γ X u pc L (.int x :: st) h := fun p e s m args below meth c H locs ls E hR hS hL => lv_ineg E.1 E.2.1 hd (k p e s m args below meth c H locs ls E hR hS hL)
theorem go_idiv {x y : Int32} (hd : decode X.1 pc = .ok (.idiv, 1)) (hne : ¬ y = 0) (k : sk_Go Γ X u (pc + 1) L (.int (x / y) :: st) h) : sk_Go Γ X u pc L (.int y :: .int x :: st) h := fun p e s m args below meth c H locs ls E hR hS hL => lv_idiv E.1 E.2.1 hd hne (k p e s m args below meth c H locs ls E hR hS hL)
theorem go_irem {x y : Int32} (hd : decode X.1 pc = .ok (.irem, 1)) (hne : ¬ y = 0) (k : sk_Go Γ X u (pc + 1) L (.int (x - x / y * y) :: st) h) : sk_Go Γ X u pc L (.int y :: .int x :: st) h := fun p e s m args below meth c H locs ls E hR hS hL => lv_irem E.1 E.2.1 hd hne (k p e s m args below meth c H locs ls E hR hS hL)
theorem go_ladd {x y : Int64} (hd : decode X.1 pc = .ok (.ladd, 1)) (k : sk_Go Γ X u (pc + 1) L (.long (x + y) :: st) h) : sk_Go Γ X u pc L (.long y :: .long x :: st) h := fun p e s m args below meth c H locs ls E hR hS hL => lv_ladd E.1 E.2.1 hd (k p e s m args below meth c H locs ls E hR hS hL)
theorem go_lsub {x y : Int64} (hd : decode X.1 pc = .ok (.lsub, 1)) (k : sk_Go Γ X u (pc + 1) L (.long (x - y) :: st) h) : sk_Go Γ X u pc L (.long y :: .long x :: st) h := fun p e s m args below meth c H locs ls E hR hS hL => lv_lsub E.1 E.2.1 hd (k p e s m args below meth c H locs ls E hR hS hL)
theorem go_lmul {x y : Int64} (hd : decode X.1 pc = .ok (.lmul, 1)) (k : sk_Go Γ X u (pc + 1) L (.long (x * y) :: st) h) : sk_Go Γ X u pc L (.long y :: .long x :: st) h := fun p e s m args below meth c H locs ls E hR hS hL => lv_lmul E.1 E.2.1 hd (k p e s m args below meth c H locs ls E hR hS hL)
theorem go_ldiv {x y : Int64} (hd : decode X.1 pc = .ok (.ldiv, 1)) (hne : ¬ y = 0) (k : sk_Go Γ X u (pc + 1) L (.long (x / y) :: st) h) : sk_Go Γ X u pc L (.long y :: .long x :: st) h := fun p e s m args below meth c H locs ls E hR hS hL => lv_ldiv E.1 E.2.1 hd hne (k p e s m args below meth c H locs ls E hR hS hL)
theorem go_lshl {x : Int64} {y : Int32} (hd : decode X.1 pc = .ok (.lshl, 1)) (k : sk_Go Γ X u (pc + 1) L (.long (x <<< (y.toInt64 &&& 63)) :: st) h) : sk_Go Γ X u pc L (.int y :: .long x :: st) h := fun p e s m args below meth c H locs ls E hR hS hL => lv_lshl E.1 E.2.1 hd rfl (k p e s m args below meth c H locs ls E hR hS hL)
theorem go_lcmp {x y : Int64} (hd : decode X.1 pc = .ok (.lcmp, 1)) (k : sk_Go Γ X u (pc + 1) L (.int (lg_cmp x y) :: st) h) : sk_Go Γ X u pc L (.long y :: .long x :: st) h := fun p e s m args below meth c H locs ls E hR hS hL => W.lcmp E.1 E.2.1 hd (k p e s m args below meth c H locs ls E hR hS hL)
theorem go_i2l {x : Int32} (hd : decode X.1 pc = .ok (.i2l, 1)) (k : sk_Go Γ X u (pc + 1) L (.long x.toInt64 :: st) h) : sk_Go Γ X u pc L (.int x :: st) h := fun p e s m args below meth c H locs ls E hR hS hL => lv_i2l E.1 E.2.1 hd rfl (k p e s m args below meth c H locs ls E hR hS hL)
theorem go_l2i {x : Int64} (hd : decode X.1 pc = .ok (.l2i, 1)) (k : sk_Go Γ X u (pc + 1) L (.int x.toInt32 :: st) h) : sk_Go Γ X u pc L (.long x :: st) h := fun p e s m args below meth c H locs ls E hR hS hL => lv_l2i E.1 E.2.1 hd rfl (k p e s m args below meth c H locs ls E hR hS hL)
theorem go_dup {v : Value} (hd : decode X.1 pc = .ok (.dup, 1)) (hv : v.category = 1) (k : sk_Go Γ X u (pc + 1) L (v :: v :: st) h) : sk_Go Γ X u pc L (v :: st) h := fun p e s m args below meth c H locs ls E hR hS hL => lv_dup E.1 E.2.1 hd (by rw [sk_cv_cat]; exact hv) (k p e s m args below meth c H locs ls E hR hS hL)
theorem go_dup2 {v z : Value} (hd : decode X.1 pc = .ok (.dup2, 1)) (hv : v.category = 1) (hz : z.category = 1) (k : sk_Go Γ X u (pc + 1) L (v :: z :: v :: z :: st) h) : sk_Go Γ X u pc L (v :: z :: st) h := fun p e s m args below meth c H locs ls E hR hS hL => lv_dup2_11 E.1 E.2.1 hd (by rw [sk_cv_cat]; exact hv) (by rw [sk_cv_cat]; exact hz) (k p e s m args below meth c H locs ls E hR hS hL)
theorem go_goto {off : Int} {tgt : Nat} (hd : decode X.1 pc = .ok (.goto off, 3)) (ht : (pc : Int) + off = (tgt : Int)) (k : sk_Go Γ X u tgt L st h) : sk_Go Γ X u pc L st h := fun p e s m args below meth c H locs ls E hR hS hL => lv_goto E.1 E.2.1 hd ht (k p e s m args below meth c H locs ls E hR hS hL)
theorem go_icmp_eq {x y : Int32} {off : Int} {tgt : Nat} (hd : decode X.1 pc = .ok (.if_icmp .eq off, 3)) (ht : (pc : Int) + off = (tgt : Int)) (kt : x = y → sk_Go Γ X u tgt L st h) (kf : ¬ x = y → sk_Go Γ X u (pc + 3) L st h) : sk_Go Γ X u pc L (.int y :: .int x :: st) h := fun p e s m args below meth c H locs ls E hR hS hL => lv_icmp_eq E.1 E.2.1 hd ht (fun q => kt q p e s m args below meth c H locs ls E hR hS hL) (fun q => kf q p e s m args below meth c H locs ls E hR hS hL)
theorem go_if_eq {x : Int32} {off : Int} {tgt : Nat} (hd : decode X.1 pc = .ok (.ifCond .eq off, 3)) (ht : (pc : Int) + off = (tgt : Int)) (kt : x = 0 → sk_Go Γ X u tgt L st h) (kf : ¬ x = 0 → sk_Go Γ X u (pc + 3) L st h) : sk_Go Γ X u pc L (.int x :: st) h := fun p e s m args below meth c H locs ls E hR hS hL => lv_if_eq E.1 E.2.1 hd ht (fun q => kt q p e s m args below meth c H locs ls E hR hS hL) (fun q => kf q p e s m args below meth c H locs ls E hR hS hL)
theorem go_icmp_ne {x y : Int32} {off : Int} {tgt : Nat} (hd : decode X.1 pc = .ok (.if_icmp .ne off, 3)) (ht : (pc : Int) + off = (tgt : Int)) (kt : ¬ x = y → sk_Go Γ X u tgt L st h) (kf : x = y → sk_Go Γ X u (pc + 3) L st h) : sk_Go Γ X u pc L (.int y :: .int x :: st) h := fun p e s m args below meth c H locs ls E hR hS hL => lv_icmp_ne E.1 E.2.1 hd ht (fun q => kt q p e s m args below meth c H locs ls E hR hS hL) (fun q => kf q p e s m args below meth c H locs ls E hR hS hL)
theorem go_if_ne {x : Int32} {off : Int} {tgt : Nat} (hd : decode X.1 pc = .ok (.ifCond .ne off, 3)) (ht : (pc : Int) + off = (tgt : Int)) (kt : ¬ x = 0 → sk_Go Γ X u tgt L st h) (kf : x = 0 → sk_Go Γ X u (pc + 3) L st h) : sk_Go Γ X u pc L (.int x :: st) h := fun p e s m args below meth c H locs ls E hR hS hL => lv_if_ne E.1 E.2.1 hd ht (fun q => kt q p e s m args below meth c H locs ls E hR hS hL) (fun q => kf q p e s m args below meth c H locs ls E hR hS hL)
theorem go_icmp_lt {x y : Int32} {off : Int} {tgt : Nat} (hd : decode X.1 pc = .ok (.if_icmp .lt off, 3)) (ht : (pc : Int) + off = (tgt : Int)) (kt : x < y → sk_Go Γ X u tgt L st h) (kf : ¬ x < y → sk_Go Γ X u (pc + 3) L st h) : sk_Go Γ X u pc L (.int y :: .int x :: st) h := fun p e s m args below meth c H locs ls E hR hS hL => lv_icmp_lt E.1 E.2.1 hd ht (fun q => kt q p e s m args below meth c H locs ls E hR hS hL) (fun q => kf q p e s m args below meth c H locs ls E hR hS hL)
theorem go_if_lt {x : Int32} {off : Int} {tgt : Nat} (hd : decode X.1 pc = .ok (.ifCond .lt off, 3)) (ht : (pc : Int) + off = (tgt : Int)) (kt : x < 0 → sk_Go Γ X u tgt L st h) (kf : ¬ x < 0 → sk_Go Γ X u (pc + 3) L st h) : sk_Go Γ X u pc L (.int x :: st) h := fun p e s m args below meth c H locs ls E hR hS hL => lv_if_lt E.1 E.2.1 hd ht (fun q => kt q p e s m args below meth c H locs ls E hR hS hL) (fun q => kf q p e s m args below meth c H locs ls E hR hS hL)
theorem go_icmp_ge {x y : Int32} {off : Int} {tgt : Nat} (hd : decode X.1 pc = .ok (.if_icmp .ge off, 3)) (ht : (pc : Int) + off = (tgt : Int)) (kt : y ≤ x → sk_Go Γ X u tgt L st h) (kf : ¬ y ≤ x → sk_Go Γ X u (pc + 3) L st h) : sk_Go Γ X u pc L (.int y :: .int x :: st) h := fun p e s m args below meth c H locs ls E hR hS hL => lv_icmp_ge E.1 E.2.1 hd ht (fun q => kt q p e s m args below meth c H locs ls E hR hS hL) (fun q => kf q p e s m args below meth c H locs ls E hR hS hL)
theorem go_if_ge {x : Int32} {off : Int} {tgt : Nat} (hd : decode X.1 pc = .ok (.ifCond .ge off, 3)) (ht : (pc : Int) + off = (tgt : Int)) (kt : 0 ≤ x → sk_Go Γ X u tgt L st h) (kf : ¬ 0 ≤ x → sk_Go Γ X u (pc + 3) L st h) : sk_Go Γ X u pc L (.int x :: st) h := fun p e s m args below meth c H locs ls E hR hS hL => lv_if_ge E.1 E.2.1 hd ht (fun q => kt q p e s m args below meth c H locs ls E hR hS hL) (fun q => kf q p e s m args below meth c H locs ls E hR hS hL)
theorem go_icmp_gt {x y : Int32} {off : Int} {tgt : Nat} (hd : decode X.1 pc = .ok (.if_icmp .gt off, 3)) (ht : (pc : Int) + off = (tgt : Int)) (kt : y < x → sk_Go Γ X u tgt L st h) (kf : ¬ y < x → sk_Go Γ X u (pc + 3) L st h) : sk_Go Γ X u pc L (.int y :: .int x :: st) h := fun p e s m args below meth c H locs ls E hR hS hL => lv_icmp_gt E.1 E.2.1 hd ht (fun q => kt q p e s m args below meth c H locs ls E hR hS hL) (fun q => kf q p e s m args below meth c H locs ls E hR hS hL)
theorem go_if_gt {x : Int32} {off : Int} {tgt : Nat} (hd : decode X.1 pc = .ok (.ifCond .gt off, 3)) (ht : (pc : Int) + off = (tgt : Int)) (kt : 0 < x → sk_Go Γ X u tgt L st h) (kf : ¬ 0 < x → sk_Go Γ X u (pc + 3) L st h) : sk_Go Γ X u pc L (.int x :: st) h := fun p e s m args below meth c H locs ls E hR hS hL => lv_if_gt E.1 E.2.1 hd ht (fun q => kt q p e s m args below meth c H locs ls E hR hS hL) (fun q => kf q p e s m args below meth c H locs ls E hR hS hL)
theorem go_icmp_le {x y : Int32} {off : Int} {tgt : Nat} (hd : decode X.1 pc = .ok (.if_icmp .le off, 3)) (ht : (pc : Int) + off = (tgt : Int)) (kt : x ≤ y → sk_Go Γ X u tgt L st h) (kf : ¬ x ≤ y → sk_Go Γ X u (pc + 3) L st h) : sk_Go Γ X u pc L (.int y :: .int x :: st) h := fun p e s m args below meth c H locs ls E hR hS hL => lv_icmp_le E.1 E.2.1 hd ht (fun q => kt q p e s m args below meth c H locs ls E hR hS hL) (fun q => kf q p e s m args below meth c H locs ls E hR hS hL)
theorem go_if_le {x : Int32} {off : Int} {tgt : Nat} (hd : decode X.1 pc = .ok (.ifCond .le off, 3)) (ht : (pc : Int) + off = (tgt : Int)) (kt : x ≤ 0 → sk_Go Γ X u tgt L st h) (kf : ¬ x ≤ 0 → sk_Go Γ X u (pc + 3) L st h) : sk_Go Γ X u pc L (.int x :: st) h := fun p e s m args below meth c H locs ls E hR hS hL => lv_if_le E.1 E.2.1 hd ht (fun q => kt q p e s m args below meth c H locs ls E hR hS hL) (fun q => kf q p e s m args below meth c H locs ls E hR hS hL)
theorem go_ifnonnull {x : Nat} {off : Int} {tgt : Nat} (hd : decode X.1 pc = .ok (.ifnonnull off, 3)) (ht : (pc : Int) + off = (tgt : Int)) (k : sk_Go Γ X u tgt L st h) : sk_Go Γ X u pc L (.ref x :: st) h := fun p e s m args below meth c H locs ls E hR hS hL => lv_ifnonnull E.1 E.2.1 hd ht (k p e s m args below meth c H locs ls E hR hS hL)
theorem go_ifnonnullN {off : Int} (hd : decode X.1 pc = .ok (.ifnonnull off, 3)) (k : sk_Go Γ X u (pc + 3) L st h) : sk_Go Γ X u pc L (.null :: st) h := fun p e s m args below meth c H locs ls E hR hS hL => lv_ifnonnullN E.1 E.2.1 hd (k p e s m args below meth c H locs ls E hR hS hL)
theorem go_tout {dflt lo hi : Int} {offs : Array Int} {len : Nat} {x : Int32} {tgt : Nat} (hd : decode X.1 pc = .ok (.tableswitch dflt lo hi offs, len)) (hx : x.toInt < lo ∨ hi < x.toInt) (ht : (pc : Int) + dflt = (tgt : Int)) (k : sk_Go Γ X u tgt L st h) : sk_Go Γ X u pc L (.int x :: st) h := fun p e s m args below meth c H locs ls E hR hS hL => lv_tableOut E.1 E.2.1 hd hx ht (k p e s m args below meth c H locs ls E hR hS hL)
theorem go_tin {dflt lo hi : Int} {offs : Array Int} {len : Nat} {x : Int32} {off : Int} {tgt : Nat} (hd : decode X.1 pc = .ok (.tableswitch dflt lo hi offs, len)) (h1 : ¬ x.toInt < lo) (h2 : ¬ hi < x.toInt) (ho : offs[(x.toInt - lo).toNat]? = some off) (ht : (pc : Int) + off = (tgt : Int)) (k : sk_Go Γ X u tgt L st h) : sk_Go Γ X u pc L (.int x :: st) h := fun p e s m args below meth c H locs ls E hR hS hL => lv_tableIn E.1 E.2.1 hd h1 h2 ho ht (k p e s m args below meth c H locs ls E hR hS hL)
theorem go_look {dflt : Int} {ps : Array (Int × Int)} {len : Nat} {x : Int32} {off : Int} {tgt : Nat} (hd : decode X.1 pc = .ok (.lookupswitch dflt ps, len)) (hp : (ps.toList.zip (ps.toList.drop 1)).all (fun (a, next) => a.1 < next.1) = true) (ho : Op.lookupswitch.offset ps.toList dflt x.toInt = off) (ht : (pc : Int) + off = (tgt : Int)) (k : sk_Go Γ X u tgt L st h) : sk_Go Γ X u pc L (.int x :: st) h := fun p e s m args below meth c H locs ls E hR hS hL => lv_lookup E.1 E.2.1 hd hp ho ht (k p e s m args below meth c H locs ls E hR hS hL)
end ROWS
