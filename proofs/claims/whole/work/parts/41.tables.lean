/-! What the tables give at the law's entry. -/
theorem lw_K {s : State} {b : Nat} (hts : ∀ w ∈ lw_tbl, w.before #[Value.ref b] s = true) (l : Launch) : ∃ Γ : sk_Cx, Γ.1 = l ∧ Γ.2.1 = s.heap.size ∧ Γ.2.2.2.2 = b ∧ sk_K Γ s := by
  obtain ⟨c0, i0, k0⟩ := u_known (C := RX0) (T := TX0) (N := 5) (n := 5) hts (fun z hz => (List.mem_filter.mp (wf_X0 z hz)).1) (hts _ (List.mem_filter.mp ia_X0).1)
  obtain ⟨c1, i1, k1⟩ := u_known (C := RX2) (T := TX2) (N := 1) (n := 1) hts (fun z hz => (List.mem_filter.mp (wf_X2 z hz)).1) (hts _ (List.mem_filter.mp ia_X2).1)
  obtain ⟨c2, i2, k2⟩ := u_known (C := RX3) (T := TX3) (N := 3) (n := 3) hts (fun z hz => (List.mem_filter.mp (wf_X3 z hz)).1) (hts _ (List.mem_filter.mp ia_X3).1)
  obtain ⟨c3, i3, k3⟩ := u_known (C := RX4) (T := TX4) (N := 4) (n := 4) hts (fun z hz => (List.mem_filter.mp (wf_X4 z hz)).1) (hts _ (List.mem_filter.mp ia_X4).1)
  obtain ⟨c4, i4, k4⟩ := u_known (C := RX5) (T := TX5) (N := 1) (n := 1) hts (fun z hz => (List.mem_filter.mp (wf_X5 z hz)).1) (hts _ (List.mem_filter.mp ia_X5).1)
  obtain ⟨c5, i5, k5⟩ := u_known (C := RX6) (T := TX6) (N := 6) (n := 6) hts (fun z hz => (List.mem_filter.mp (wf_X6 z hz)).1) (hts _ (List.mem_filter.mp ia_X6).1)
  obtain ⟨c6, i6, k6⟩ := u_known (C := RX7) (T := TX7) (N := 2) (n := 2) hts (fun z hz => (List.mem_filter.mp (wf_X7 z hz)).1) (hts _ (List.mem_filter.mp ia_X7).1)
  obtain ⟨c7, i7, k7⟩ := u_known (C := RX8) (T := TX8) (N := 6) (n := 6) hts (fun z hz => (List.mem_filter.mp (wf_X8 z hz)).1) (hts _ (List.mem_filter.mp ia_X8).1)
  obtain ⟨c8, i8, k8⟩ := u_known (C := RX9) (T := TX9) (N := 10) (n := 10) hts (fun z hz => (List.mem_filter.mp (wf_X9 z hz)).1) (hts _ (List.mem_filter.mp ia_X9).1)
  obtain ⟨dC, dI, hKc⟩ : ∃ (dC : Nat → ClassId) (dI : Nat → Nat → Nat), ∀ (k : Nat) (q : vw_C), vwCl[k]? = some q → u_Kn s q.1 q.2.1 q.2.2 (dC k) (dI k) := by
    refine ⟨fun k => match k with | 0 => c0 | 1 => c1 | 2 => c2 | 3 => c3 | 4 => c4 | 5 => c5 | 6 => c6 | 7 => c7 | _ => c8, fun k => match k with | 0 => i0 | 1 => i1 | 2 => i2 | 3 => i3 | 4 => i4 | 5 => i5 | 6 => i6 | 7 => i7 | _ => i8, ?_⟩
    intro k q hq
    match k, hq with
    | 0, hq => cases hq; exact k0
    | 1, hq => cases hq; exact k1
    | 2, hq => cases hq; exact k2
    | 3, hq => cases hq; exact k3
    | 4, hq => cases hq; exact k4
    | 5, hq => cases hq; exact k5
    | 6, hq => cases hq; exact k6
    | 7, hq => cases hq; exact k7
    | 8, hq => cases hq; exact k8
    | k + 9, hq => cases hq
  obtain ⟨cI, kI, compI, eI1, eI2, eI3⟩ := Cond.arrayClass_spec (hts _ (List.mem_filter.mp sk_acI).1)
  obtain ⟨cZ, kZ, compZ, eZ1, eZ2, eZ3⟩ := Cond.arrayClass_spec (hts _ (List.mem_filter.mp sk_acZ).1)
  have hAO : (Cond.arrayOver (.object "SkyEcho$Sky")).before #[Value.ref b] s = true := hts _ (List.mem_append_right _ (List.mem_of_getElem? (i := 98) (by decide +kernel)))
  obtain ⟨compS, cS, kS, s1, s2, s3, s4, s5⟩ := Cond.arrayOver_spec hAO
  refine ⟨(l, s.heap.size, (dC, dI), (cI, cZ, cS), b), rfl, rfl, rfl, ⟨hKc, fun k q hq => ?_⟩, ?_, va_AO.of hAO⟩
  · match k, hq with
    | 0, hq => cases hq; exact ⟨fun n z => ⟨fun k h => (by cases h), kI, eI2, compI, eI3⟩, eI1⟩
    | 1, hq => cases hq; exact ⟨fun n z => ⟨fun k h => (by cases h), kZ, eZ2, compZ, eZ3⟩, eZ1⟩
    | 2, hq => cases hq; exact ⟨fun n z => ⟨fun k h => (by cases h), kS, s3, compS, s4⟩, kS, compS, s3, s4, s1, s5⟩
    | k + 3, hq => cases hq
  · exact List.forall_mem_cons.mpr ⟨va_Nw.of rfl (hts _ (List.mem_append_right _ (List.mem_of_getElem? (i := 24) (by decide +kernel)))), List.forall_mem_cons.mpr ⟨va_Nw.of rfl (hts _ (List.mem_append_right _ (List.mem_of_getElem? (i := 30) (by decide +kernel)))), List.forall_mem_cons.mpr ⟨va_Nw.of rfl (hts _ (List.mem_append_right _ (List.mem_of_getElem? (i := 66) (by decide +kernel)))), List.forall_mem_cons.mpr ⟨va_Nw.of rfl (hts _ (List.mem_append_right _ (List.mem_of_getElem? (i := 101) (by decide +kernel)))), List.forall_mem_cons.mpr ⟨va_Nw.of rfl (hts _ (List.mem_append_right _ (List.mem_of_getElem? (i := 131) (by decide +kernel)))), List.forall_mem_cons.mpr ⟨va_Nw.of rfl (hts _ (List.mem_append_right _ (List.mem_of_getElem? (i := 145) (by decide +kernel)))), fun _ h => absurd h List.not_mem_nil⟩⟩⟩⟩⟩⟩
