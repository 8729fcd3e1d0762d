/-- from the entry, for every script of at most 2560 ints, the law comes to its end with true -/
theorem whole_start {p : Program} {e : Env} {s : State} {m : MethodId} {below : List Frame} {meth : Method} {c : Code} (l : Launch) {b L : Nat} {xs : Nat → Int32} (hL : L ≤ 2560) (C0 : lw_At p s m meth c b L xs) : W p l e room_1 s m #[Value.ref b] below meth c s.heap [] 0 0 (lw_Z below #[Value.ref b] s) (entryFrame m ([Value.ref b] : List Value).toArray 4) := by
  obtain ⟨hx, hb, hr, hml, hown, hts, hX, hbl, hlocks, hgv⟩ := C0
  obtain ⟨Γ, g1, g2, g3, hK⟩ := lw_K hts l
  subst g1
  subst g3
  rw [lg_entry_eq]
  have hl := sk_entry (Γ := Γ) [.float 0] (n := 4) (Nat.le_of_ble_eq_true rfl)
  exact lw_begin hL p e s m _ below meth c s.heap [] _ ⟨hx, hb, hr, hml, hown, fun z hz => hts z (List.mem_filter.mp hz).1, hlocks, (fun h => by cases h), hK, ⟨rfl, hX, hbl, g2⟩, Nat.le_of_eq g2⟩ ⟨g2.symm, fun k kd h => by cases h⟩ va_S.rf hl
