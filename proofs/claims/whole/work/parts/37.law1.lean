/-! THE CLAIM OUT OF ONE WALK OF THE LAW'S BODY. Your part is whole_start (and what it stands on); all else here is the same for every law, but numbers. -/
def R_law : String := "SkyEchoLaw"
def lw_P (b : Addr) (xs : List Int32) (args : Array Value) (s : State) : Prop := args = #[.ref b] ∧ s.IntsAt b xs ∧ xs.length ≤ 2560 ∧ (Jvm.Cond.and given_1 narrow_1).before args s = true
def lw_Q (_ : Array Value) (s : State) (o : Outcome) (t : State) : Prop := o = .returned (some (.int 1)) ∧ Framed s o t [] 600000 7302250
def lw_Z (below : List Frame) (a : Array Value) (s : State) : State → Prop := fun t => ∃ o, t.status = .running ∧ Ended t below o ∧ lw_Q a s o t
/-- the law's own end, with 1 on the stack, nothing written that was there before, its room as the claim has it -/
theorem lw_ret {p : Program} {l : Launch} {e : Env} {s : State} {m : MethodId} {below : List Frame} {meth : Method} {c : Code} {b : Nat} (hx : p.tables.exec = Jvm.exec) (hb : c.code = code) (hr : meth.sig.returnType = ret) (hlocks : meth.locks = false) {pc : Nat} {H : Heap} {ls : Array Slot} (hdg : decode code pc = .ok (.ireturn, 1)) : W p l e room_1 s m #[Value.ref b] below meth c H [] 600000 7302250 (lw_Z below #[Value.ref b] s) (F0 m pc ls [.int 1]) := by
  intro T hT X
  obtain ⟨fs, hret, hrun, hended, hW, hframe⟩ := X.leave (v := some (.int 1)) (hlocks := hlocks) (fun h => by rw [hr] at h; cases h)
  have hmeth' : T.vm.method? m = some meth := X.method'
  refine ⟨T.setFrames fs, ?_, .returned (some (.int 1)), hrun, hended, rfl, ⟨_, rfl⟩, hW, hframe⟩
  jvm_step X.here [X.here.top, hx, hb, hdg, hmeth', hr, ret, narrow_b1]
  (try refine ⟨rfl, ?_⟩); (try refine ⟨rfl, ?_⟩)
  first | (intro acts; rw [hret _ acts rfl rfl rfl]) | rw [hret _ _ rfl rfl rfl]
  exact Steps.refl _
/-- what holds at the law's entry: the machine, the code, the tables' words (any of lw_tbl by 'hts w (by decide +kernel)'), the script of L ints xs at the cell b, what the Statement gives of the start (any of its parts by flat_of_before) -/
def lw_At (p : Program) (s : State) (m : MethodId) (meth : Method) (c : Code) (b L : Nat) (xs : Nat → Int32) : Prop :=
  p.tables.exec = Jvm.exec ∧ c.code = code ∧ meth.sig.returnType = ret ∧ c.maxLocals = 4 ∧ s.vm.findClass R_law = some m.cls ∧ (∀ w ∈ lw_tbl, w.before #[Value.ref b] s = true) ∧ va_X b L xs s s.heap ∧ b < s.heap.size ∧ meth.locks = false ∧ (Jvm.Cond.and given_1 narrow_1).before #[Value.ref b] s = true
/-- the law's own frame -/
def sk_XL (Γ : sk_Cx) (n : Nat) (xs : Nat → Int32) : sk_Px := (cL_law, 4, ret, RL, false, room_1, fun below args s => lw_Z below args s, fun args s => args = #[.ref Γ.2.2.2.2] ∧ va_X Γ.2.2.2.2 n xs s s.heap ∧ Γ.2.2.2.2 < s.heap.size ∧ Γ.2.1 = s.heap.size)
section LAWROWS
variable {Γ : sk_Cx} {n : Nat} {xs : Nat → Int32} {u : Nat × Nat} {pc : Nat} {L : List (Option Value)} {st : List Value} {h : sk_Hp}
theorem go_sld {i : Int32} {z : UInt32} (hd : decode cL_law pc = .ok (.iaload, 1)) (hin : vp_in i n) (k : sk_Go Γ (sk_XL Γ n xs) u (pc + 1) L (.int (xs i.toNatClampNeg) :: st) h) : sk_Go Γ (sk_XL Γ n xs) u pc L (.int i :: .float z :: st) h := by
  intro p e s m args below meth c H locs ls E hR hS hL
  obtain ⟨e1, e2, e3, e4⟩ := E.2.2.2.2.2.2.2.2.2.1
  exact va_sld E.1 E.2.1 e2 e3 (show ¬ Γ.2.1 ≤ Γ.2.2.2.2 by omega) hS hin hd (k p e s m args below meth c H locs ls E hR hS hL)
theorem go_slen {z : UInt32} (hd : decode cL_law pc = .ok (.arraylength, 1)) (k : sk_Go Γ (sk_XL Γ n xs) u (pc + 1) L (.int (Int32.ofNat n) :: st) h) : sk_Go Γ (sk_XL Γ n xs) u pc L (.float z :: st) h := by
  intro p e s m args below meth c H locs ls E hR hS hL
  obtain ⟨e1, e2, e3, e4⟩ := E.2.2.2.2.2.2.2.2.2.1
  exact va_slen E.1 E.2.1 e2 e3 (show ¬ Γ.2.1 ≤ Γ.2.2.2.2 by omega) hS hd (k p e s m args below meth c H locs ls E hR hS hL)
theorem go_lend (hd : decode cL_law pc = .ok (.ireturn, 1)) (h1 : u.1 ≤ 600000) (h2 : u.2 ≤ 7302250) : sk_Go Γ (sk_XL Γ n xs) u pc L [.int 1] h := by
  intro p e s m args below meth c H locs ls E hR hS hL
  obtain ⟨e1, e2, e3, e4⟩ := E.2.2.2.2.2.2.2.2.2.1
  subst e1
  refine va_forget (fun q hq => by have : Γ.2.1 ≤ q.base := hS.2.2 q hq; omega) ?_
  exact W.widen (k := 600000) (n := 7302250) h1 h2 (lw_ret E.1 E.2.1 E.2.2.1 E.2.2.2.2.2.2.1 hd)
theorem go_lwid {u' : Nat × Nat} (h1 : u.1 ≤ u'.1) (h2 : u.2 ≤ u'.2) (k : sk_Go Γ (sk_XL Γ n xs) u' pc L st h) : sk_Go Γ (sk_XL Γ n xs) u pc L st h := fun p e s m args below meth c H locs ls E hR hS hL => W.widen (k := u'.1) (n := u'.2) h1 h2 (k p e s m args below meth c H locs ls E hR hS hL)
/-- the next ints of the script -/
def sk_xi (xs : Nat → Int32) (i j : Nat) : Int32 := xs (i + j)
theorem go_slj {i j : Nat} {z : UInt32} (hd : decode cL_law pc = .ok (.iaload, 1)) {y : Int32} (hy : y = nI j) (h1 : i + j < n) (h2 : n ≤ 2560) (k : sk_Go Γ (sk_XL Γ n xs) u (pc + 1) L (.int (sk_xi xs i j) :: st) h) : sk_Go Γ (sk_XL Γ n xs) u pc L (.int (nI i + y) :: .float z :: st) h := by
  subst hy
  rw [nI_add]
  refine go_sld hd (vp_in_nI h1 (by omega)) ?_
  rw [nI_clamp (by omega)]
  exact k
end LAWROWS
section LAWCALLS
variable {Γ : sk_Cx} {n : Nat} {xs : Nat → Int32} {u : Nat × Nat} {i : Nat} {hi : Nat → Nat → Int32} {rr : Nat → Nat → Option Nat} {ex : List (Nat × Nat)} {P : sk_Hp → Prop}
theorem lc_0 (h1 : i + 5 ≤ n) (h2 : n ≤ 2560) (hu : u.1 + 10 ≤ 600000 ∧ u.2 + 1157 ≤ 7302250) (kk : sk_Ct Γ m_X8_board [.ref 0, .int (sk_xi xs i 1), .int (sk_xi xs i 2), .int (sk_xi xs i 3), .int (sk_xi xs i 4)] (sk_h hi rr ex) (fun r h1 => ∃ v, r = some (.int v) ∧ ∃ hi1 rr1 ex1, h1 = sk_h hi1 rr1 ex1 ∧ sk_Ct Γ m_X9_board [.ref 20, .int (sk_xi xs i 1), .int (sk_xi xs i 2), .int (sk_xi xs i 3), .int (sk_xi xs i 4)] (sk_h hi1 rr1 ex1) (fun r' h' => r' = some (.int v) ∧ sk_Go Γ (sk_XL Γ n xs) (u.1 + 10, u.2 + 1157) 979 [some (.float 0), some (.ref 0), some (.ref 20), some (.int (nI i))] [] h'))) : sk_Go Γ (sk_XL Γ n xs) u 140 [some (.float 0), some (.ref 0), some (.ref 20), some (.int (nI i))] [] (sk_h hi rr ex) := by
  obtain ⟨hu1, hu2⟩ := hu
  refine go_aload_n dL_law_140 rfl ?_
  refine go_aload_x dL_law_141 rfl ?_
  refine go_iload_n dL_law_142 rfl ?_
  refine go_iconst dL_law_143 (v := 1) (by decide) ?_
  refine go_iadd dL_law_144 ?_
  refine go_slj (i := i) (j := 1) dL_law_145 rfl (by omega) h2 ?_
  refine go_aload_x dL_law_146 rfl ?_
  refine go_iload_n dL_law_147 rfl ?_
  refine go_iconst dL_law_148 (v := 2) (by decide) ?_
  refine go_iadd dL_law_149 ?_
  refine go_slj (i := i) (j := 2) dL_law_150 rfl (by omega) h2 ?_
  refine go_aload_x dL_law_151 rfl ?_
  refine go_iload_n dL_law_152 rfl ?_
  refine go_iconst dL_law_153 (v := 3) (by decide) ?_
  refine go_iadd dL_law_154 ?_
  refine go_slj (i := i) (j := 3) dL_law_155 rfl (by omega) h2 ?_
  refine go_aload_x dL_law_156 rfl ?_
  refine go_iload_n dL_law_157 rfl ?_
  refine go_iconst dL_law_158 (v := 4) (by decide) ?_
  refine go_iadd dL_law_159 ?_
  refine go_slj (i := i) (j := 4) dL_law_160 rfl (by omega) h2 ?_
  refine go_callV (μ := m_X8_board) (n := 164) (T := TX8) (N := 6) [.int (sk_xi xs i 1), .int (sk_xi xs i 2), .int (sk_xi xs i 3), .int (sk_xi xs i 4)] dL_law_161 ok_X8_board ml_L_13 wx_X8_board wl_X8_board (show _ = some (0, 7) from rfl) rfl rfl (Nat.le_of_ble_eq_true rfl) ⟨Nat.le_of_ble_eq_true rfl, Nat.le_of_ble_eq_true rfl⟩ ⟨show u.1 + 0 ≤ 600000 by omega, show u.2 + 0 ≤ 7302250 by omega⟩ rfl ?_
  refine sk_Ct.mono kk (fun r h1 q => ?_)
  obtain ⟨v, e0, q⟩ := q
  subst e0
  show sk_Go Γ (sk_XL Γ n xs) (u.1 + 0, u.2 + 0) 164 [some (.float 0), some (.ref 0), some (.ref 20), some (.int (nI i))] [.int v] h1
  obtain ⟨hi1, rr1, ex1, eh, q⟩ := q
  subst eh
  refine go_aload_n dL_law_164 rfl ?_
  refine go_aload_x dL_law_165 rfl ?_
  refine go_iload_n dL_law_166 rfl ?_
  refine go_iconst dL_law_167 (v := 1) (by decide) ?_
  refine go_iadd dL_law_168 ?_
  refine go_slj (i := i) (j := 1) dL_law_169 rfl (by omega) h2 ?_
  refine go_aload_x dL_law_170 rfl ?_
  refine go_iload_n dL_law_171 rfl ?_
  refine go_iconst dL_law_172 (v := 2) (by decide) ?_
  refine go_iadd dL_law_173 ?_
  refine go_slj (i := i) (j := 2) dL_law_174 rfl (by omega) h2 ?_
  refine go_aload_x dL_law_175 rfl ?_
  refine go_iload_n dL_law_176 rfl ?_
  refine go_iconst dL_law_177 (v := 3) (by decide) ?_
  refine go_iadd dL_law_178 ?_
  refine go_slj (i := i) (j := 3) dL_law_179 rfl (by omega) h2 ?_
  refine go_aload_x dL_law_180 rfl ?_
  refine go_iload_n dL_law_181 rfl ?_
  refine go_iconst dL_law_182 (v := 4) (by decide) ?_
  refine go_iadd dL_law_183 ?_
  refine go_slj (i := i) (j := 4) dL_law_184 rfl (by omega) h2 ?_
  refine go_callV (μ := m_X9_board) (n := 188) (T := TX9) (N := 10) [.int (sk_xi xs i 1), .int (sk_xi xs i 2), .int (sk_xi xs i 3), .int (sk_xi xs i 4)] dL_law_185 ok_X9_board ml_L_17 wx_X9_board wl_X9_board (show _ = some (0, 8) from rfl) rfl rfl (Nat.le_of_ble_eq_true rfl) ⟨Nat.le_of_ble_eq_true rfl, Nat.le_of_ble_eq_true rfl⟩ ⟨show u.1 + 0 + 0 ≤ 600000 by omega, show u.2 + 0 + 0 ≤ 7302250 by omega⟩ rfl ?_
  refine sk_Ct.mono q (fun r h' q2 => ?_)
  obtain ⟨e0, q2⟩ := q2
  subst e0
  show sk_Go Γ (sk_XL Γ n xs) (u.1 + 0 + 0, u.2 + 0 + 0) 188 [some (.float 0), some (.ref 0), some (.ref 20), some (.int (nI i))] [.int v, .int v] h'
  exact go_icmp_eq (tgt := 979) dL_law_188 (by decide) (fun _ => go_lwid (u' := (u.1 + 10, u.2 + 1157)) (show u.1 + 0 + 0 ≤ u.1 + 10 by omega) (show u.2 + 0 + 0 ≤ u.2 + 1157 by omega) q2) (fun c => absurd rfl c)
theorem lc_1 (h1 : i + 5 ≤ n) (h2 : n ≤ 2560) (hu : u.1 + 10 ≤ 600000 ∧ u.2 + 1157 ≤ 7302250) (kk : sk_Ct Γ m_X8_echo [.ref 0, .int (sk_xi xs i 1), .int (sk_xi xs i 2), .int (sk_xi xs i 3), .int (sk_xi xs i 4)] (sk_h hi rr ex) (fun r h1 => ∃ v, r = some (.int v) ∧ ∃ hi1 rr1 ex1, h1 = sk_h hi1 rr1 ex1 ∧ sk_Ct Γ m_X9_echo [.ref 20, .int (sk_xi xs i 1), .int (sk_xi xs i 2), .int (sk_xi xs i 3), .int (sk_xi xs i 4)] (sk_h hi1 rr1 ex1) (fun r' h' => r' = some (.int v) ∧ sk_Go Γ (sk_XL Γ n xs) (u.1 + 10, u.2 + 1157) 979 [some (.float 0), some (.ref 0), some (.ref 20), some (.int (nI i))] [] h'))) : sk_Go Γ (sk_XL Γ n xs) u 193 [some (.float 0), some (.ref 0), some (.ref 20), some (.int (nI i))] [] (sk_h hi rr ex) := by
  obtain ⟨hu1, hu2⟩ := hu
  refine go_aload_n dL_law_193 rfl ?_
  refine go_aload_x dL_law_194 rfl ?_
  refine go_iload_n dL_law_195 rfl ?_
  refine go_iconst dL_law_196 (v := 1) (by decide) ?_
  refine go_iadd dL_law_197 ?_
  refine go_slj (i := i) (j := 1) dL_law_198 rfl (by omega) h2 ?_
  refine go_aload_x dL_law_199 rfl ?_
  refine go_iload_n dL_law_200 rfl ?_
  refine go_iconst dL_law_201 (v := 2) (by decide) ?_
  refine go_iadd dL_law_202 ?_
  refine go_slj (i := i) (j := 2) dL_law_203 rfl (by omega) h2 ?_
  refine go_aload_x dL_law_204 rfl ?_
  refine go_iload_n dL_law_205 rfl ?_
  refine go_iconst dL_law_206 (v := 3) (by decide) ?_
  refine go_iadd dL_law_207 ?_
  refine go_slj (i := i) (j := 3) dL_law_208 rfl (by omega) h2 ?_
  refine go_aload_x dL_law_209 rfl ?_
  refine go_iload_n dL_law_210 rfl ?_
  refine go_iconst dL_law_211 (v := 4) (by decide) ?_
  refine go_iadd dL_law_212 ?_
  refine go_slj (i := i) (j := 4) dL_law_213 rfl (by omega) h2 ?_
  refine go_callV (μ := m_X8_echo) (n := 217) (T := TX8) (N := 6) [.int (sk_xi xs i 1), .int (sk_xi xs i 2), .int (sk_xi xs i 3), .int (sk_xi xs i 4)] dL_law_214 ok_X8_echo ml_L_18 wx_X8_echo wl_X8_echo (show _ = some (0, 7) from rfl) rfl rfl (Nat.le_of_ble_eq_true rfl) ⟨Nat.le_of_ble_eq_true rfl, Nat.le_of_ble_eq_true rfl⟩ ⟨show u.1 + 0 ≤ 600000 by omega, show u.2 + 0 ≤ 7302250 by omega⟩ rfl ?_
  refine sk_Ct.mono kk (fun r h1 q => ?_)
  obtain ⟨v, e0, q⟩ := q
  subst e0
  show sk_Go Γ (sk_XL Γ n xs) (u.1 + 0, u.2 + 0) 217 [some (.float 0), some (.ref 0), some (.ref 20), some (.int (nI i))] [.int v] h1
  obtain ⟨hi1, rr1, ex1, eh, q⟩ := q
  subst eh
  refine go_aload_n dL_law_217 rfl ?_
  refine go_aload_x dL_law_218 rfl ?_
  refine go_iload_n dL_law_219 rfl ?_
  refine go_iconst dL_law_220 (v := 1) (by decide) ?_
  refine go_iadd dL_law_221 ?_
  refine go_slj (i := i) (j := 1) dL_law_222 rfl (by omega) h2 ?_
  refine go_aload_x dL_law_223 rfl ?_
  refine go_iload_n dL_law_224 rfl ?_
  refine go_iconst dL_law_225 (v := 2) (by decide) ?_
  refine go_iadd dL_law_226 ?_
  refine go_slj (i := i) (j := 2) dL_law_227 rfl (by omega) h2 ?_
  refine go_aload_x dL_law_228 rfl ?_
  refine go_iload_n dL_law_229 rfl ?_
  refine go_iconst dL_law_230 (v := 3) (by decide) ?_
  refine go_iadd dL_law_231 ?_
  refine go_slj (i := i) (j := 3) dL_law_232 rfl (by omega) h2 ?_
  refine go_aload_x dL_law_233 rfl ?_
  refine go_iload_n dL_law_234 rfl ?_
  refine go_iconst dL_law_235 (v := 4) (by decide) ?_
  refine go_iadd dL_law_236 ?_
  refine go_slj (i := i) (j := 4) dL_law_237 rfl (by omega) h2 ?_
  refine go_callV (μ := m_X9_echo) (n := 241) (T := TX9) (N := 10) [.int (sk_xi xs i 1), .int (sk_xi xs i 2), .int (sk_xi xs i 3), .int (sk_xi xs i 4)] dL_law_238 ok_X9_echo ml_L_21 wx_X9_echo wl_X9_echo (show _ = some (0, 8) from rfl) rfl rfl (Nat.le_of_ble_eq_true rfl) ⟨Nat.le_of_ble_eq_true rfl, Nat.le_of_ble_eq_true rfl⟩ ⟨show u.1 + 0 + 0 ≤ 600000 by omega, show u.2 + 0 + 0 ≤ 7302250 by omega⟩ rfl ?_
  refine sk_Ct.mono q (fun r h' q2 => ?_)
  obtain ⟨e0, q2⟩ := q2
  subst e0
  show sk_Go Γ (sk_XL Γ n xs) (u.1 + 0 + 0, u.2 + 0 + 0) 241 [some (.float 0), some (.ref 0), some (.ref 20), some (.int (nI i))] [.int v, .int v] h'
  exact go_icmp_eq (tgt := 979) dL_law_241 (by decide) (fun _ => go_lwid (u' := (u.1 + 10, u.2 + 1157)) (show u.1 + 0 + 0 ≤ u.1 + 10 by omega) (show u.2 + 0 + 0 ≤ u.2 + 1157 by omega) q2) (fun c => absurd rfl c)
theorem lc_2 (h1 : i + 5 ≤ n) (h2 : n ≤ 2560) (hu : u.1 + 10 ≤ 600000 ∧ u.2 + 1157 ≤ 7302250) (kk : sk_Ct Γ m_X8_blank [.ref 0, .int (sk_xi xs i 1)] (sk_h hi rr ex) (fun r h1 => ∃ v, r = some (.int v) ∧ ∃ hi1 rr1 ex1, h1 = sk_h hi1 rr1 ex1 ∧ sk_Ct Γ m_X9_blank [.ref 20, .int (sk_xi xs i 1)] (sk_h hi1 rr1 ex1) (fun r' h' => r' = some (.int v) ∧ sk_Go Γ (sk_XL Γ n xs) (u.1 + 10, u.2 + 1157) 979 [some (.float 0), some (.ref 0), some (.ref 20), some (.int (nI i))] [] h'))) : sk_Go Γ (sk_XL Γ n xs) u 246 [some (.float 0), some (.ref 0), some (.ref 20), some (.int (nI i))] [] (sk_h hi rr ex) := by
  obtain ⟨hu1, hu2⟩ := hu
  refine go_aload_n dL_law_246 rfl ?_
  refine go_aload_x dL_law_247 rfl ?_
  refine go_iload_n dL_law_248 rfl ?_
  refine go_iconst dL_law_249 (v := 1) (by decide) ?_
  refine go_iadd dL_law_250 ?_
  refine go_slj (i := i) (j := 1) dL_law_251 rfl (by omega) h2 ?_
  refine go_callV (μ := m_X8_blank) (n := 255) (T := TX8) (N := 6) [.int (sk_xi xs i 1)] dL_law_252 ok_X8_blank ml_L_22 wx_X8_blank wl_X8_blank (show _ = some (0, 7) from rfl) rfl rfl (Nat.le_of_ble_eq_true rfl) ⟨Nat.le_of_ble_eq_true rfl, Nat.le_of_ble_eq_true rfl⟩ ⟨show u.1 + 0 ≤ 600000 by omega, show u.2 + 0 ≤ 7302250 by omega⟩ rfl ?_
  refine sk_Ct.mono kk (fun r h1 q => ?_)
  obtain ⟨v, e0, q⟩ := q
  subst e0
  show sk_Go Γ (sk_XL Γ n xs) (u.1 + 0, u.2 + 0) 255 [some (.float 0), some (.ref 0), some (.ref 20), some (.int (nI i))] [.int v] h1
  obtain ⟨hi1, rr1, ex1, eh, q⟩ := q
  subst eh
  refine go_aload_n dL_law_255 rfl ?_
  refine go_aload_x dL_law_256 rfl ?_
  refine go_iload_n dL_law_257 rfl ?_
  refine go_iconst dL_law_258 (v := 1) (by decide) ?_
  refine go_iadd dL_law_259 ?_
  refine go_slj (i := i) (j := 1) dL_law_260 rfl (by omega) h2 ?_
  refine go_callV (μ := m_X9_blank) (n := 264) (T := TX9) (N := 10) [.int (sk_xi xs i 1)] dL_law_261 ok_X9_blank ml_L_26 wx_X9_blank wl_X9_blank (show _ = some (0, 8) from rfl) rfl rfl (Nat.le_of_ble_eq_true rfl) ⟨Nat.le_of_ble_eq_true rfl, Nat.le_of_ble_eq_true rfl⟩ ⟨show u.1 + 0 + 0 ≤ 600000 by omega, show u.2 + 0 + 0 ≤ 7302250 by omega⟩ rfl ?_
  refine sk_Ct.mono q (fun r h' q2 => ?_)
  obtain ⟨e0, q2⟩ := q2
  subst e0
  show sk_Go Γ (sk_XL Γ n xs) (u.1 + 0 + 0, u.2 + 0 + 0) 264 [some (.float 0), some (.ref 0), some (.ref 20), some (.int (nI i))] [.int v, .int v] h'
  exact go_icmp_eq (tgt := 979) dL_law_264 (by decide) (fun _ => go_lwid (u' := (u.1 + 10, u.2 + 1157)) (show u.1 + 0 + 0 ≤ u.1 + 10 by omega) (show u.2 + 0 + 0 ≤ u.2 + 1157 by omega) q2) (fun c => absurd rfl c)
theorem lc_3 (h1 : i + 5 ≤ n) (h2 : n ≤ 2560) (hu : u.1 + 10 ≤ 600000 ∧ u.2 + 1157 ≤ 7302250) (kk : sk_Ct Γ m_X8_noise [.ref 0, .int (sk_xi xs i 1), .int (sk_xi xs i 2)] (sk_h hi rr ex) (fun r h1 => ∃ v, r = some (.int v) ∧ ∃ hi1 rr1 ex1, h1 = sk_h hi1 rr1 ex1 ∧ sk_Ct Γ m_X9_noise [.ref 20, .int (sk_xi xs i 1), .int (sk_xi xs i 2)] (sk_h hi1 rr1 ex1) (fun r' h' => r' = some (.int v) ∧ sk_Go Γ (sk_XL Γ n xs) (u.1 + 10, u.2 + 1157) 979 [some (.float 0), some (.ref 0), some (.ref 20), some (.int (nI i))] [] h'))) : sk_Go Γ (sk_XL Γ n xs) u 269 [some (.float 0), some (.ref 0), some (.ref 20), some (.int (nI i))] [] (sk_h hi rr ex) := by
  obtain ⟨hu1, hu2⟩ := hu
  refine go_aload_n dL_law_269 rfl ?_
  refine go_aload_x dL_law_270 rfl ?_
  refine go_iload_n dL_law_271 rfl ?_
  refine go_iconst dL_law_272 (v := 1) (by decide) ?_
  refine go_iadd dL_law_273 ?_
  refine go_slj (i := i) (j := 1) dL_law_274 rfl (by omega) h2 ?_
  refine go_aload_x dL_law_275 rfl ?_
  refine go_iload_n dL_law_276 rfl ?_
  refine go_iconst dL_law_277 (v := 2) (by decide) ?_
  refine go_iadd dL_law_278 ?_
  refine go_slj (i := i) (j := 2) dL_law_279 rfl (by omega) h2 ?_
  refine go_callV (μ := m_X8_noise) (n := 283) (T := TX8) (N := 6) [.int (sk_xi xs i 1), .int (sk_xi xs i 2)] dL_law_280 ok_X8_noise ml_L_27 wx_X8_noise wl_X8_noise (show _ = some (0, 7) from rfl) rfl rfl (Nat.le_of_ble_eq_true rfl) ⟨Nat.le_of_ble_eq_true rfl, Nat.le_of_ble_eq_true rfl⟩ ⟨show u.1 + 0 ≤ 600000 by omega, show u.2 + 0 ≤ 7302250 by omega⟩ rfl ?_
  refine sk_Ct.mono kk (fun r h1 q => ?_)
  obtain ⟨v, e0, q⟩ := q
  subst e0
  show sk_Go Γ (sk_XL Γ n xs) (u.1 + 0, u.2 + 0) 283 [some (.float 0), some (.ref 0), some (.ref 20), some (.int (nI i))] [.int v] h1
  obtain ⟨hi1, rr1, ex1, eh, q⟩ := q
  subst eh
  refine go_aload_n dL_law_283 rfl ?_
  refine go_aload_x dL_law_284 rfl ?_
  refine go_iload_n dL_law_285 rfl ?_
  refine go_iconst dL_law_286 (v := 1) (by decide) ?_
  refine go_iadd dL_law_287 ?_
  refine go_slj (i := i) (j := 1) dL_law_288 rfl (by omega) h2 ?_
  refine go_aload_x dL_law_289 rfl ?_
  refine go_iload_n dL_law_290 rfl ?_
  refine go_iconst dL_law_291 (v := 2) (by decide) ?_
  refine go_iadd dL_law_292 ?_
  refine go_slj (i := i) (j := 2) dL_law_293 rfl (by omega) h2 ?_
  refine go_callV (μ := m_X9_noise) (n := 297) (T := TX9) (N := 10) [.int (sk_xi xs i 1), .int (sk_xi xs i 2)] dL_law_294 ok_X9_noise ml_L_31 wx_X9_noise wl_X9_noise (show _ = some (0, 8) from rfl) rfl rfl (Nat.le_of_ble_eq_true rfl) ⟨Nat.le_of_ble_eq_true rfl, Nat.le_of_ble_eq_true rfl⟩ ⟨show u.1 + 0 + 0 ≤ 600000 by omega, show u.2 + 0 + 0 ≤ 7302250 by omega⟩ rfl ?_
  refine sk_Ct.mono q (fun r h' q2 => ?_)
  obtain ⟨e0, q2⟩ := q2
  subst e0
  show sk_Go Γ (sk_XL Γ n xs) (u.1 + 0 + 0, u.2 + 0 + 0) 297 [some (.float 0), some (.ref 0), some (.ref 20), some (.int (nI i))] [.int v, .int v] h'
  exact go_icmp_eq (tgt := 979) dL_law_297 (by decide) (fun _ => go_lwid (u' := (u.1 + 10, u.2 + 1157)) (show u.1 + 0 + 0 ≤ u.1 + 10 by omega) (show u.2 + 0 + 0 ≤ u.2 + 1157 by omega) q2) (fun c => absurd rfl c)
theorem lc_4 (h1 : i + 5 ≤ n) (h2 : n ≤ 2560) (hu : u.1 + 10 ≤ 600000 ∧ u.2 + 1157 ≤ 7302250) (kk : sk_Ct Γ m_X8_shift [.ref 0, .int (sk_xi xs i 1)] (sk_h hi rr ex) (fun r h1 => ∃ v, r = some (.int v) ∧ ∃ hi1 rr1 ex1, h1 = sk_h hi1 rr1 ex1 ∧ sk_Ct Γ m_X9_shift [.ref 20, .int (sk_xi xs i 1)] (sk_h hi1 rr1 ex1) (fun r' h' => r' = some (.int v) ∧ sk_Go Γ (sk_XL Γ n xs) (u.1 + 10, u.2 + 1157) 979 [some (.float 0), some (.ref 0), some (.ref 20), some (.int (nI i))] [] h'))) : sk_Go Γ (sk_XL Γ n xs) u 302 [some (.float 0), some (.ref 0), some (.ref 20), some (.int (nI i))] [] (sk_h hi rr ex) := by
  obtain ⟨hu1, hu2⟩ := hu
  refine go_aload_n dL_law_302 rfl ?_
  refine go_aload_x dL_law_303 rfl ?_
  refine go_iload_n dL_law_304 rfl ?_
  refine go_iconst dL_law_305 (v := 1) (by decide) ?_
  refine go_iadd dL_law_306 ?_
  refine go_slj (i := i) (j := 1) dL_law_307 rfl (by omega) h2 ?_
  refine go_callV (μ := m_X8_shift) (n := 311) (T := TX8) (N := 6) [.int (sk_xi xs i 1)] dL_law_308 ok_X8_shift ml_L_32 wx_X8_shift wl_X8_shift (show _ = some (0, 7) from rfl) rfl rfl (Nat.le_of_ble_eq_true rfl) ⟨Nat.le_of_ble_eq_true rfl, Nat.le_of_ble_eq_true rfl⟩ ⟨show u.1 + 0 ≤ 600000 by omega, show u.2 + 0 ≤ 7302250 by omega⟩ rfl ?_
  refine sk_Ct.mono kk (fun r h1 q => ?_)
  obtain ⟨v, e0, q⟩ := q
  subst e0
  show sk_Go Γ (sk_XL Γ n xs) (u.1 + 0, u.2 + 0) 311 [some (.float 0), some (.ref 0), some (.ref 20), some (.int (nI i))] [.int v] h1
  obtain ⟨hi1, rr1, ex1, eh, q⟩ := q
  subst eh
  refine go_aload_n dL_law_311 rfl ?_
  refine go_aload_x dL_law_312 rfl ?_
  refine go_iload_n dL_law_313 rfl ?_
  refine go_iconst dL_law_314 (v := 1) (by decide) ?_
  refine go_iadd dL_law_315 ?_
  refine go_slj (i := i) (j := 1) dL_law_316 rfl (by omega) h2 ?_
  refine go_callV (μ := m_X9_shift) (n := 320) (T := TX9) (N := 10) [.int (sk_xi xs i 1)] dL_law_317 ok_X9_shift ml_L_35 wx_X9_shift wl_X9_shift (show _ = some (0, 8) from rfl) rfl rfl (Nat.le_of_ble_eq_true rfl) ⟨Nat.le_of_ble_eq_true rfl, Nat.le_of_ble_eq_true rfl⟩ ⟨show u.1 + 0 + 0 ≤ 600000 by omega, show u.2 + 0 + 0 ≤ 7302250 by omega⟩ rfl ?_
  refine sk_Ct.mono q (fun r h' q2 => ?_)
  obtain ⟨e0, q2⟩ := q2
  subst e0
  show sk_Go Γ (sk_XL Γ n xs) (u.1 + 0 + 0, u.2 + 0 + 0) 320 [some (.float 0), some (.ref 0), some (.ref 20), some (.int (nI i))] [.int v, .int v] h'
  exact go_icmp_eq (tgt := 979) dL_law_320 (by decide) (fun _ => go_lwid (u' := (u.1 + 10, u.2 + 1157)) (show u.1 + 0 + 0 ≤ u.1 + 10 by omega) (show u.2 + 0 + 0 ≤ u.2 + 1157 by omega) q2) (fun c => absurd rfl c)
theorem lc_5 (h1 : i + 5 ≤ n) (h2 : n ≤ 2560) (hu : u.1 + 10 ≤ 600000 ∧ u.2 + 1157 ≤ 7302250) (kk : sk_Ct Γ m_X8_tell [.ref 0, .int (sk_xi xs i 1), .int (sk_xi xs i 2), .int (sk_xi xs i 3), .int (sk_xi xs i 4)] (sk_h hi rr ex) (fun r h1 => ∃ v, r = some (.int v) ∧ ∃ hi1 rr1 ex1, h1 = sk_h hi1 rr1 ex1 ∧ sk_Ct Γ m_X9_tell [.ref 20, .int (sk_xi xs i 1), .int (sk_xi xs i 2), .int (sk_xi xs i 3), .int (sk_xi xs i 4)] (sk_h hi1 rr1 ex1) (fun r' h' => r' = some (.int v) ∧ sk_Go Γ (sk_XL Γ n xs) (u.1 + 10, u.2 + 1157) 979 [some (.float 0), some (.ref 0), some (.ref 20), some (.int (nI i))] [] h'))) : sk_Go Γ (sk_XL Γ n xs) u 325 [some (.float 0), some (.ref 0), some (.ref 20), some (.int (nI i))] [] (sk_h hi rr ex) := by
  obtain ⟨hu1, hu2⟩ := hu
  refine go_aload_n dL_law_325 rfl ?_
  refine go_aload_x dL_law_326 rfl ?_
  refine go_iload_n dL_law_327 rfl ?_
  refine go_iconst dL_law_328 (v := 1) (by decide) ?_
  refine go_iadd dL_law_329 ?_
  refine go_slj (i := i) (j := 1) dL_law_330 rfl (by omega) h2 ?_
  refine go_aload_x dL_law_331 rfl ?_
  refine go_iload_n dL_law_332 rfl ?_
  refine go_iconst dL_law_333 (v := 2) (by decide) ?_
  refine go_iadd dL_law_334 ?_
  refine go_slj (i := i) (j := 2) dL_law_335 rfl (by omega) h2 ?_
  refine go_aload_x dL_law_336 rfl ?_
  refine go_iload_n dL_law_337 rfl ?_
  refine go_iconst dL_law_338 (v := 3) (by decide) ?_
  refine go_iadd dL_law_339 ?_
  refine go_slj (i := i) (j := 3) dL_law_340 rfl (by omega) h2 ?_
  refine go_aload_x dL_law_341 rfl ?_
  refine go_iload_n dL_law_342 rfl ?_
  refine go_iconst dL_law_343 (v := 4) (by decide) ?_
  refine go_iadd dL_law_344 ?_
  refine go_slj (i := i) (j := 4) dL_law_345 rfl (by omega) h2 ?_
  refine go_callV (μ := m_X8_tell) (n := 349) (T := TX8) (N := 6) [.int (sk_xi xs i 1), .int (sk_xi xs i 2), .int (sk_xi xs i 3), .int (sk_xi xs i 4)] dL_law_346 ok_X8_tell ml_L_36 wx_X8_tell wl_X8_tell (show _ = some (0, 7) from rfl) rfl rfl (Nat.le_of_ble_eq_true rfl) ⟨Nat.le_of_ble_eq_true rfl, Nat.le_of_ble_eq_true rfl⟩ ⟨show u.1 + 0 ≤ 600000 by omega, show u.2 + 0 ≤ 7302250 by omega⟩ rfl ?_
  refine sk_Ct.mono kk (fun r h1 q => ?_)
  obtain ⟨v, e0, q⟩ := q
  subst e0
  show sk_Go Γ (sk_XL Γ n xs) (u.1 + 0, u.2 + 0) 349 [some (.float 0), some (.ref 0), some (.ref 20), some (.int (nI i))] [.int v] h1
  obtain ⟨hi1, rr1, ex1, eh, q⟩ := q
  subst eh
  refine go_aload_n dL_law_349 rfl ?_
  refine go_aload_x dL_law_350 rfl ?_
  refine go_iload_n dL_law_351 rfl ?_
  refine go_iconst dL_law_352 (v := 1) (by decide) ?_
  refine go_iadd dL_law_353 ?_
  refine go_slj (i := i) (j := 1) dL_law_354 rfl (by omega) h2 ?_
  refine go_aload_x dL_law_355 rfl ?_
  refine go_iload_n dL_law_356 rfl ?_
  refine go_iconst dL_law_357 (v := 2) (by decide) ?_
  refine go_iadd dL_law_358 ?_
  refine go_slj (i := i) (j := 2) dL_law_359 rfl (by omega) h2 ?_
  refine go_aload_x dL_law_360 rfl ?_
  refine go_iload_n dL_law_361 rfl ?_
  refine go_iconst dL_law_362 (v := 3) (by decide) ?_
  refine go_iadd dL_law_363 ?_
  refine go_slj (i := i) (j := 3) dL_law_364 rfl (by omega) h2 ?_
  refine go_aload_x dL_law_365 rfl ?_
  refine go_iload_n dL_law_366 rfl ?_
  refine go_iconst dL_law_367 (v := 4) (by decide) ?_
  refine go_iadd dL_law_368 ?_
  refine go_slj (i := i) (j := 4) dL_law_369 rfl (by omega) h2 ?_
  refine go_callV (μ := m_X9_tell) (n := 373) (T := TX9) (N := 10) [.int (sk_xi xs i 1), .int (sk_xi xs i 2), .int (sk_xi xs i 3), .int (sk_xi xs i 4)] dL_law_370 ok_X9_tell ml_L_40 wx_X9_tell wl_X9_tell (show _ = some (0, 8) from rfl) rfl rfl (Nat.le_of_ble_eq_true rfl) ⟨Nat.le_of_ble_eq_true rfl, Nat.le_of_ble_eq_true rfl⟩ ⟨show u.1 + 0 + 0 ≤ 600000 by omega, show u.2 + 0 + 0 ≤ 7302250 by omega⟩ rfl ?_
  refine sk_Ct.mono q (fun r h' q2 => ?_)
  obtain ⟨e0, q2⟩ := q2
  subst e0
  show sk_Go Γ (sk_XL Γ n xs) (u.1 + 0 + 0, u.2 + 0 + 0) 373 [some (.float 0), some (.ref 0), some (.ref 20), some (.int (nI i))] [.int v, .int v] h'
  exact go_icmp_eq (tgt := 979) dL_law_373 (by decide) (fun _ => go_lwid (u' := (u.1 + 10, u.2 + 1157)) (show u.1 + 0 + 0 ≤ u.1 + 10 by omega) (show u.2 + 0 + 0 ≤ u.2 + 1157 by omega) q2) (fun c => absurd rfl c)
theorem lc_6 (h1 : i + 5 ≤ n) (h2 : n ≤ 2560) (hu : u.1 + 10 ≤ 600000 ∧ u.2 + 1157 ≤ 7302250) (kk : sk_Ct Γ m_X8_trace [.ref 0, .int (sk_xi xs i 1), .int (sk_xi xs i 2)] (sk_h hi rr ex) (fun r h1 => ∃ v, r = some (.int v) ∧ ∃ hi1 rr1 ex1, h1 = sk_h hi1 rr1 ex1 ∧ sk_Ct Γ m_X9_trace [.ref 20, .int (sk_xi xs i 1), .int (sk_xi xs i 2)] (sk_h hi1 rr1 ex1) (fun r' h' => r' = some (.int v) ∧ sk_Go Γ (sk_XL Γ n xs) (u.1 + 10, u.2 + 1157) 979 [some (.float 0), some (.ref 0), some (.ref 20), some (.int (nI i))] [] h'))) : sk_Go Γ (sk_XL Γ n xs) u 378 [some (.float 0), some (.ref 0), some (.ref 20), some (.int (nI i))] [] (sk_h hi rr ex) := by
  obtain ⟨hu1, hu2⟩ := hu
  refine go_aload_n dL_law_378 rfl ?_
  refine go_aload_x dL_law_379 rfl ?_
  refine go_iload_n dL_law_380 rfl ?_
  refine go_iconst dL_law_381 (v := 1) (by decide) ?_
  refine go_iadd dL_law_382 ?_
  refine go_slj (i := i) (j := 1) dL_law_383 rfl (by omega) h2 ?_
  refine go_aload_x dL_law_384 rfl ?_
  refine go_iload_n dL_law_385 rfl ?_
  refine go_iconst dL_law_386 (v := 2) (by decide) ?_
  refine go_iadd dL_law_387 ?_
  refine go_slj (i := i) (j := 2) dL_law_388 rfl (by omega) h2 ?_
  refine go_callV (μ := m_X8_trace) (n := 392) (T := TX8) (N := 6) [.int (sk_xi xs i 1), .int (sk_xi xs i 2)] dL_law_389 ok_X8_trace ml_L_41 wx_X8_trace wl_X8_trace (show _ = some (0, 7) from rfl) rfl rfl (Nat.le_of_ble_eq_true rfl) ⟨Nat.le_of_ble_eq_true rfl, Nat.le_of_ble_eq_true rfl⟩ ⟨show u.1 + 0 ≤ 600000 by omega, show u.2 + 0 ≤ 7302250 by omega⟩ rfl ?_
  refine sk_Ct.mono kk (fun r h1 q => ?_)
  obtain ⟨v, e0, q⟩ := q
  subst e0
  show sk_Go Γ (sk_XL Γ n xs) (u.1 + 0, u.2 + 0) 392 [some (.float 0), some (.ref 0), some (.ref 20), some (.int (nI i))] [.int v] h1
  obtain ⟨hi1, rr1, ex1, eh, q⟩ := q
  subst eh
  refine go_aload_n dL_law_392 rfl ?_
  refine go_aload_x dL_law_393 rfl ?_
  refine go_iload_n dL_law_394 rfl ?_
  refine go_iconst dL_law_395 (v := 1) (by decide) ?_
  refine go_iadd dL_law_396 ?_
  refine go_slj (i := i) (j := 1) dL_law_397 rfl (by omega) h2 ?_
  refine go_aload_x dL_law_398 rfl ?_
  refine go_iload_n dL_law_399 rfl ?_
  refine go_iconst dL_law_400 (v := 2) (by decide) ?_
  refine go_iadd dL_law_401 ?_
  refine go_slj (i := i) (j := 2) dL_law_402 rfl (by omega) h2 ?_
  refine go_callV (μ := m_X9_trace) (n := 406) (T := TX9) (N := 10) [.int (sk_xi xs i 1), .int (sk_xi xs i 2)] dL_law_403 ok_X9_trace ml_L_45 wx_X9_trace wl_X9_trace (show _ = some (0, 8) from rfl) rfl rfl (Nat.le_of_ble_eq_true rfl) ⟨Nat.le_of_ble_eq_true rfl, Nat.le_of_ble_eq_true rfl⟩ ⟨show u.1 + 0 + 0 ≤ 600000 by omega, show u.2 + 0 + 0 ≤ 7302250 by omega⟩ rfl ?_
  refine sk_Ct.mono q (fun r h' q2 => ?_)
  obtain ⟨e0, q2⟩ := q2
  subst e0
  show sk_Go Γ (sk_XL Γ n xs) (u.1 + 0 + 0, u.2 + 0 + 0) 406 [some (.float 0), some (.ref 0), some (.ref 20), some (.int (nI i))] [.int v, .int v] h'
  exact go_icmp_eq (tgt := 979) dL_law_406 (by decide) (fun _ => go_lwid (u' := (u.1 + 10, u.2 + 1157)) (show u.1 + 0 + 0 ≤ u.1 + 10 by omega) (show u.2 + 0 + 0 ≤ u.2 + 1157 by omega) q2) (fun c => absurd rfl c)
theorem lc_7 (h1 : i + 5 ≤ n) (h2 : n ≤ 2560) (hu : u.1 + 10 ≤ 600000 ∧ u.2 + 1157 ≤ 7302250) (kk : sk_Ct Γ m_X8_height [.ref 0, .int (sk_xi xs i 1), .int (sk_xi xs i 2)] (sk_h hi rr ex) (fun r h1 => ∃ v, r = some (.int v) ∧ ∃ hi1 rr1 ex1, h1 = sk_h hi1 rr1 ex1 ∧ sk_Ct Γ m_X9_height [.ref 20, .int (sk_xi xs i 1), .int (sk_xi xs i 2)] (sk_h hi1 rr1 ex1) (fun r' h' => r' = some (.int v) ∧ sk_Go Γ (sk_XL Γ n xs) (u.1 + 10, u.2 + 1157) 979 [some (.float 0), some (.ref 0), some (.ref 20), some (.int (nI i))] [] h'))) : sk_Go Γ (sk_XL Γ n xs) u 411 [some (.float 0), some (.ref 0), some (.ref 20), some (.int (nI i))] [] (sk_h hi rr ex) := by
  obtain ⟨hu1, hu2⟩ := hu
  refine go_aload_n dL_law_411 rfl ?_
  refine go_aload_x dL_law_412 rfl ?_
  refine go_iload_n dL_law_413 rfl ?_
  refine go_iconst dL_law_414 (v := 1) (by decide) ?_
  refine go_iadd dL_law_415 ?_
  refine go_slj (i := i) (j := 1) dL_law_416 rfl (by omega) h2 ?_
  refine go_aload_x dL_law_417 rfl ?_
  refine go_iload_n dL_law_418 rfl ?_
  refine go_iconst dL_law_419 (v := 2) (by decide) ?_
  refine go_iadd dL_law_420 ?_
  refine go_slj (i := i) (j := 2) dL_law_421 rfl (by omega) h2 ?_
  refine go_callV (μ := m_X8_height) (n := 425) (T := TX8) (N := 6) [.int (sk_xi xs i 1), .int (sk_xi xs i 2)] dL_law_422 ok_X8_height ml_L_46 wx_X8_height wl_X8_height (show _ = some (0, 7) from rfl) rfl rfl (Nat.le_of_ble_eq_true rfl) ⟨Nat.le_of_ble_eq_true rfl, Nat.le_of_ble_eq_true rfl⟩ ⟨show u.1 + 0 ≤ 600000 by omega, show u.2 + 0 ≤ 7302250 by omega⟩ rfl ?_
  refine sk_Ct.mono kk (fun r h1 q => ?_)
  obtain ⟨v, e0, q⟩ := q
  subst e0
  show sk_Go Γ (sk_XL Γ n xs) (u.1 + 0, u.2 + 0) 425 [some (.float 0), some (.ref 0), some (.ref 20), some (.int (nI i))] [.int v] h1
  obtain ⟨hi1, rr1, ex1, eh, q⟩ := q
  subst eh
  refine go_aload_n dL_law_425 rfl ?_
  refine go_aload_x dL_law_426 rfl ?_
  refine go_iload_n dL_law_427 rfl ?_
  refine go_iconst dL_law_428 (v := 1) (by decide) ?_
  refine go_iadd dL_law_429 ?_
  refine go_slj (i := i) (j := 1) dL_law_430 rfl (by omega) h2 ?_
  refine go_aload_x dL_law_431 rfl ?_
  refine go_iload_n dL_law_432 rfl ?_
  refine go_iconst dL_law_433 (v := 2) (by decide) ?_
  refine go_iadd dL_law_434 ?_
  refine go_slj (i := i) (j := 2) dL_law_435 rfl (by omega) h2 ?_
  refine go_callV (μ := m_X9_height) (n := 439) (T := TX9) (N := 10) [.int (sk_xi xs i 1), .int (sk_xi xs i 2)] dL_law_436 ok_X9_height ml_L_49 wx_X9_height wl_X9_height (show _ = some (0, 8) from rfl) rfl rfl (Nat.le_of_ble_eq_true rfl) ⟨Nat.le_of_ble_eq_true rfl, Nat.le_of_ble_eq_true rfl⟩ ⟨show u.1 + 0 + 0 ≤ 600000 by omega, show u.2 + 0 + 0 ≤ 7302250 by omega⟩ rfl ?_
  refine sk_Ct.mono q (fun r h' q2 => ?_)
  obtain ⟨e0, q2⟩ := q2
  subst e0
  show sk_Go Γ (sk_XL Γ n xs) (u.1 + 0 + 0, u.2 + 0 + 0) 439 [some (.float 0), some (.ref 0), some (.ref 20), some (.int (nI i))] [.int v, .int v] h'
  exact go_icmp_eq (tgt := 979) dL_law_439 (by decide) (fun _ => go_lwid (u' := (u.1 + 10, u.2 + 1157)) (show u.1 + 0 + 0 ≤ u.1 + 10 by omega) (show u.2 + 0 + 0 ≤ u.2 + 1157 by omega) q2) (fun c => absurd rfl c)
theorem lc_8 (h1 : i + 5 ≤ n) (h2 : n ≤ 2560) (hu : u.1 + 10 ≤ 600000 ∧ u.2 + 1157 ≤ 7302250) (kk : sk_Ct Γ m_X8_undone [.ref 0, .int (sk_xi xs i 1)] (sk_h hi rr ex) (fun r h1 => ∃ v, r = some (.int v) ∧ ∃ hi1 rr1 ex1, h1 = sk_h hi1 rr1 ex1 ∧ sk_Ct Γ m_X9_undone [.ref 20, .int (sk_xi xs i 1)] (sk_h hi1 rr1 ex1) (fun r' h' => r' = some (.int v) ∧ sk_Go Γ (sk_XL Γ n xs) (u.1 + 10, u.2 + 1157) 979 [some (.float 0), some (.ref 0), some (.ref 20), some (.int (nI i))] [] h'))) : sk_Go Γ (sk_XL Γ n xs) u 444 [some (.float 0), some (.ref 0), some (.ref 20), some (.int (nI i))] [] (sk_h hi rr ex) := by
  obtain ⟨hu1, hu2⟩ := hu
  refine go_aload_n dL_law_444 rfl ?_
  refine go_aload_x dL_law_445 rfl ?_
  refine go_iload_n dL_law_446 rfl ?_
  refine go_iconst dL_law_447 (v := 1) (by decide) ?_
  refine go_iadd dL_law_448 ?_
  refine go_slj (i := i) (j := 1) dL_law_449 rfl (by omega) h2 ?_
  refine go_callV (μ := m_X8_undone) (n := 453) (T := TX8) (N := 6) [.int (sk_xi xs i 1)] dL_law_450 ok_X8_undone ml_L_50 wx_X8_undone wl_X8_undone (show _ = some (0, 7) from rfl) rfl rfl (Nat.le_of_ble_eq_true rfl) ⟨Nat.le_of_ble_eq_true rfl, Nat.le_of_ble_eq_true rfl⟩ ⟨show u.1 + 0 ≤ 600000 by omega, show u.2 + 0 ≤ 7302250 by omega⟩ rfl ?_
  refine sk_Ct.mono kk (fun r h1 q => ?_)
  obtain ⟨v, e0, q⟩ := q
  subst e0
  show sk_Go Γ (sk_XL Γ n xs) (u.1 + 0, u.2 + 0) 453 [some (.float 0), some (.ref 0), some (.ref 20), some (.int (nI i))] [.int v] h1
  obtain ⟨hi1, rr1, ex1, eh, q⟩ := q
  subst eh
  refine go_aload_n dL_law_453 rfl ?_
  refine go_aload_x dL_law_454 rfl ?_
  refine go_iload_n dL_law_455 rfl ?_
  refine go_iconst dL_law_456 (v := 1) (by decide) ?_
  refine go_iadd dL_law_457 ?_
  refine go_slj (i := i) (j := 1) dL_law_458 rfl (by omega) h2 ?_
  refine go_callV (μ := m_X9_undone) (n := 462) (T := TX9) (N := 10) [.int (sk_xi xs i 1)] dL_law_459 ok_X9_undone ml_L_54 wx_X9_undone wl_X9_undone (show _ = some (0, 8) from rfl) rfl rfl (Nat.le_of_ble_eq_true rfl) ⟨Nat.le_of_ble_eq_true rfl, Nat.le_of_ble_eq_true rfl⟩ ⟨show u.1 + 0 + 0 ≤ 600000 by omega, show u.2 + 0 + 0 ≤ 7302250 by omega⟩ rfl ?_
  refine sk_Ct.mono q (fun r h' q2 => ?_)
  obtain ⟨e0, q2⟩ := q2
  subst e0
  show sk_Go Γ (sk_XL Γ n xs) (u.1 + 0 + 0, u.2 + 0 + 0) 462 [some (.float 0), some (.ref 0), some (.ref 20), some (.int (nI i))] [.int v, .int v] h'
  exact go_icmp_eq (tgt := 979) dL_law_462 (by decide) (fun _ => go_lwid (u' := (u.1 + 10, u.2 + 1157)) (show u.1 + 0 + 0 ≤ u.1 + 10 by omega) (show u.2 + 0 + 0 ≤ u.2 + 1157 by omega) q2) (fun c => absurd rfl c)
theorem lc_9 (h1 : i + 5 ≤ n) (h2 : n ≤ 2560) (hu : u.1 + 10 ≤ 600000 ∧ u.2 + 1157 ≤ 7302250) (kk : sk_Ct Γ m_X8_place [.ref 0, .int (sk_xi xs i 1), .int (sk_xi xs i 2), .int (sk_xi xs i 3)] (sk_h hi rr ex) (fun r h1 => ∃ v, r = some (.int v) ∧ ∃ hi1 rr1 ex1, h1 = sk_h hi1 rr1 ex1 ∧ sk_Ct Γ m_X9_place [.ref 20, .int (sk_xi xs i 1), .int (sk_xi xs i 2), .int (sk_xi xs i 3)] (sk_h hi1 rr1 ex1) (fun r' h' => r' = some (.int v) ∧ sk_Go Γ (sk_XL Γ n xs) (u.1 + 10, u.2 + 1157) 979 [some (.float 0), some (.ref 0), some (.ref 20), some (.int (nI i))] [] h'))) : sk_Go Γ (sk_XL Γ n xs) u 467 [some (.float 0), some (.ref 0), some (.ref 20), some (.int (nI i))] [] (sk_h hi rr ex) := by
  obtain ⟨hu1, hu2⟩ := hu
  refine go_aload_n dL_law_467 rfl ?_
  refine go_aload_x dL_law_468 rfl ?_
  refine go_iload_n dL_law_469 rfl ?_
  refine go_iconst dL_law_470 (v := 1) (by decide) ?_
  refine go_iadd dL_law_471 ?_
  refine go_slj (i := i) (j := 1) dL_law_472 rfl (by omega) h2 ?_
  refine go_aload_x dL_law_473 rfl ?_
  refine go_iload_n dL_law_474 rfl ?_
  refine go_iconst dL_law_475 (v := 2) (by decide) ?_
  refine go_iadd dL_law_476 ?_
  refine go_slj (i := i) (j := 2) dL_law_477 rfl (by omega) h2 ?_
  refine go_aload_x dL_law_478 rfl ?_
  refine go_iload_n dL_law_479 rfl ?_
  refine go_iconst dL_law_480 (v := 3) (by decide) ?_
  refine go_iadd dL_law_481 ?_
  refine go_slj (i := i) (j := 3) dL_law_482 rfl (by omega) h2 ?_
  refine go_callV (μ := m_X8_place) (n := 486) (T := TX8) (N := 6) [.int (sk_xi xs i 1), .int (sk_xi xs i 2), .int (sk_xi xs i 3)] dL_law_483 ok_X8_place ml_L_55 wx_X8_place wl_X8_place (show _ = some (0, 7) from rfl) rfl rfl (Nat.le_of_ble_eq_true rfl) ⟨Nat.le_of_ble_eq_true rfl, Nat.le_of_ble_eq_true rfl⟩ ⟨show u.1 + 0 ≤ 600000 by omega, show u.2 + 0 ≤ 7302250 by omega⟩ rfl ?_
  refine sk_Ct.mono kk (fun r h1 q => ?_)
  obtain ⟨v, e0, q⟩ := q
  subst e0
  show sk_Go Γ (sk_XL Γ n xs) (u.1 + 0, u.2 + 0) 486 [some (.float 0), some (.ref 0), some (.ref 20), some (.int (nI i))] [.int v] h1
  obtain ⟨hi1, rr1, ex1, eh, q⟩ := q
  subst eh
  refine go_aload_n dL_law_486 rfl ?_
  refine go_aload_x dL_law_487 rfl ?_
  refine go_iload_n dL_law_488 rfl ?_
  refine go_iconst dL_law_489 (v := 1) (by decide) ?_
  refine go_iadd dL_law_490 ?_
  refine go_slj (i := i) (j := 1) dL_law_491 rfl (by omega) h2 ?_
  refine go_aload_x dL_law_492 rfl ?_
  refine go_iload_n dL_law_493 rfl ?_
  refine go_iconst dL_law_494 (v := 2) (by decide) ?_
  refine go_iadd dL_law_495 ?_
  refine go_slj (i := i) (j := 2) dL_law_496 rfl (by omega) h2 ?_
  refine go_aload_x dL_law_497 rfl ?_
  refine go_iload_n dL_law_498 rfl ?_
  refine go_iconst dL_law_499 (v := 3) (by decide) ?_
  refine go_iadd dL_law_500 ?_
  refine go_slj (i := i) (j := 3) dL_law_501 rfl (by omega) h2 ?_
  refine go_callV (μ := m_X9_place) (n := 505) (T := TX9) (N := 10) [.int (sk_xi xs i 1), .int (sk_xi xs i 2), .int (sk_xi xs i 3)] dL_law_502 ok_X9_place ml_L_59 wx_X9_place wl_X9_place (show _ = some (0, 8) from rfl) rfl rfl (Nat.le_of_ble_eq_true rfl) ⟨Nat.le_of_ble_eq_true rfl, Nat.le_of_ble_eq_true rfl⟩ ⟨show u.1 + 0 + 0 ≤ 600000 by omega, show u.2 + 0 + 0 ≤ 7302250 by omega⟩ rfl ?_
  refine sk_Ct.mono q (fun r h' q2 => ?_)
  obtain ⟨e0, q2⟩ := q2
  subst e0
  show sk_Go Γ (sk_XL Γ n xs) (u.1 + 0 + 0, u.2 + 0 + 0) 505 [some (.float 0), some (.ref 0), some (.ref 20), some (.int (nI i))] [.int v, .int v] h'
  exact go_icmp_eq (tgt := 979) dL_law_505 (by decide) (fun _ => go_lwid (u' := (u.1 + 10, u.2 + 1157)) (show u.1 + 0 + 0 ≤ u.1 + 10 by omega) (show u.2 + 0 + 0 ≤ u.2 + 1157 by omega) q2) (fun c => absurd rfl c)
theorem lc_10 (h1 : i + 5 ≤ n) (h2 : n ≤ 2560) (hu : u.1 + 10 ≤ 600000 ∧ u.2 + 1157 ≤ 7302250) (kk : sk_Ct Γ m_X8_value [.ref 0, .int (sk_xi xs i 1), .int (sk_xi xs i 2), .int (sk_xi xs i 3), .int (sk_xi xs i 4)] (sk_h hi rr ex) (fun r h1 => ∃ v, r = some (.int v) ∧ ∃ hi1 rr1 ex1, h1 = sk_h hi1 rr1 ex1 ∧ sk_Ct Γ m_X9_value [.ref 20, .int (sk_xi xs i 1), .int (sk_xi xs i 2), .int (sk_xi xs i 3), .int (sk_xi xs i 4)] (sk_h hi1 rr1 ex1) (fun r' h' => r' = some (.int v) ∧ sk_Go Γ (sk_XL Γ n xs) (u.1 + 10, u.2 + 1157) 979 [some (.float 0), some (.ref 0), some (.ref 20), some (.int (nI i))] [] h'))) : sk_Go Γ (sk_XL Γ n xs) u 510 [some (.float 0), some (.ref 0), some (.ref 20), some (.int (nI i))] [] (sk_h hi rr ex) := by
  obtain ⟨hu1, hu2⟩ := hu
  refine go_aload_n dL_law_510 rfl ?_
  refine go_aload_x dL_law_511 rfl ?_
  refine go_iload_n dL_law_512 rfl ?_
  refine go_iconst dL_law_513 (v := 1) (by decide) ?_
  refine go_iadd dL_law_514 ?_
  refine go_slj (i := i) (j := 1) dL_law_515 rfl (by omega) h2 ?_
  refine go_aload_x dL_law_516 rfl ?_
  refine go_iload_n dL_law_517 rfl ?_
  refine go_iconst dL_law_518 (v := 2) (by decide) ?_
  refine go_iadd dL_law_519 ?_
  refine go_slj (i := i) (j := 2) dL_law_520 rfl (by omega) h2 ?_
  refine go_aload_x dL_law_521 rfl ?_
  refine go_iload_n dL_law_522 rfl ?_
  refine go_iconst dL_law_523 (v := 3) (by decide) ?_
  refine go_iadd dL_law_524 ?_
  refine go_slj (i := i) (j := 3) dL_law_525 rfl (by omega) h2 ?_
  refine go_aload_x dL_law_526 rfl ?_
  refine go_iload_n dL_law_527 rfl ?_
  refine go_iconst dL_law_528 (v := 4) (by decide) ?_
  refine go_iadd dL_law_529 ?_
  refine go_slj (i := i) (j := 4) dL_law_530 rfl (by omega) h2 ?_
  refine go_callV (μ := m_X8_value) (n := 534) (T := TX8) (N := 6) [.int (sk_xi xs i 1), .int (sk_xi xs i 2), .int (sk_xi xs i 3), .int (sk_xi xs i 4)] dL_law_531 ok_X8_value ml_L_60 wx_X8_value wl_X8_value (show _ = some (0, 7) from rfl) rfl rfl (Nat.le_of_ble_eq_true rfl) ⟨Nat.le_of_ble_eq_true rfl, Nat.le_of_ble_eq_true rfl⟩ ⟨show u.1 + 0 ≤ 600000 by omega, show u.2 + 0 ≤ 7302250 by omega⟩ rfl ?_
  refine sk_Ct.mono kk (fun r h1 q => ?_)
  obtain ⟨v, e0, q⟩ := q
  subst e0
  show sk_Go Γ (sk_XL Γ n xs) (u.1 + 0, u.2 + 0) 534 [some (.float 0), some (.ref 0), some (.ref 20), some (.int (nI i))] [.int v] h1
  obtain ⟨hi1, rr1, ex1, eh, q⟩ := q
  subst eh
  refine go_aload_n dL_law_534 rfl ?_
  refine go_aload_x dL_law_535 rfl ?_
  refine go_iload_n dL_law_536 rfl ?_
  refine go_iconst dL_law_537 (v := 1) (by decide) ?_
  refine go_iadd dL_law_538 ?_
  refine go_slj (i := i) (j := 1) dL_law_539 rfl (by omega) h2 ?_
  refine go_aload_x dL_law_540 rfl ?_
  refine go_iload_n dL_law_541 rfl ?_
  refine go_iconst dL_law_542 (v := 2) (by decide) ?_
  refine go_iadd dL_law_543 ?_
  refine go_slj (i := i) (j := 2) dL_law_544 rfl (by omega) h2 ?_
  refine go_aload_x dL_law_545 rfl ?_
  refine go_iload_n dL_law_546 rfl ?_
  refine go_iconst dL_law_547 (v := 3) (by decide) ?_
  refine go_iadd dL_law_548 ?_
  refine go_slj (i := i) (j := 3) dL_law_549 rfl (by omega) h2 ?_
  refine go_aload_x dL_law_550 rfl ?_
  refine go_iload_n dL_law_551 rfl ?_
  refine go_iconst dL_law_552 (v := 4) (by decide) ?_
  refine go_iadd dL_law_553 ?_
  refine go_slj (i := i) (j := 4) dL_law_554 rfl (by omega) h2 ?_
  refine go_callV (μ := m_X9_value) (n := 558) (T := TX9) (N := 10) [.int (sk_xi xs i 1), .int (sk_xi xs i 2), .int (sk_xi xs i 3), .int (sk_xi xs i 4)] dL_law_555 ok_X9_value ml_L_63 wx_X9_value wl_X9_value (show _ = some (0, 8) from rfl) rfl rfl (Nat.le_of_ble_eq_true rfl) ⟨Nat.le_of_ble_eq_true rfl, Nat.le_of_ble_eq_true rfl⟩ ⟨show u.1 + 0 + 0 ≤ 600000 by omega, show u.2 + 0 + 0 ≤ 7302250 by omega⟩ rfl ?_
  refine sk_Ct.mono q (fun r h' q2 => ?_)
  obtain ⟨e0, q2⟩ := q2
  subst e0
  show sk_Go Γ (sk_XL Γ n xs) (u.1 + 0 + 0, u.2 + 0 + 0) 558 [some (.float 0), some (.ref 0), some (.ref 20), some (.int (nI i))] [.int v, .int v] h'
  exact go_icmp_eq (tgt := 979) dL_law_558 (by decide) (fun _ => go_lwid (u' := (u.1 + 10, u.2 + 1157)) (show u.1 + 0 + 0 ≤ u.1 + 10 by omega) (show u.2 + 0 + 0 ≤ u.2 + 1157 by omega) q2) (fun c => absurd rfl c)
theorem lc_11 (h1 : i + 5 ≤ n) (h2 : n ≤ 2560) (hu : u.1 + 10 ≤ 600000 ∧ u.2 + 1157 ≤ 7302250) (kk : sk_Ct Γ m_X8_scale [.ref 0, .int (sk_xi xs i 1), .int (sk_xi xs i 2), .int (sk_xi xs i 3)] (sk_h hi rr ex) (fun r h1 => ∃ v, r = some (.int v) ∧ ∃ hi1 rr1 ex1, h1 = sk_h hi1 rr1 ex1 ∧ sk_Ct Γ m_X9_scale [.ref 20, .int (sk_xi xs i 1), .int (sk_xi xs i 2), .int (sk_xi xs i 3)] (sk_h hi1 rr1 ex1) (fun r' h' => r' = some (.int v) ∧ sk_Go Γ (sk_XL Γ n xs) (u.1 + 10, u.2 + 1157) 979 [some (.float 0), some (.ref 0), some (.ref 20), some (.int (nI i))] [] h'))) : sk_Go Γ (sk_XL Γ n xs) u 563 [some (.float 0), some (.ref 0), some (.ref 20), some (.int (nI i))] [] (sk_h hi rr ex) := by
  obtain ⟨hu1, hu2⟩ := hu
  refine go_aload_n dL_law_563 rfl ?_
  refine go_aload_x dL_law_564 rfl ?_
  refine go_iload_n dL_law_565 rfl ?_
  refine go_iconst dL_law_566 (v := 1) (by decide) ?_
  refine go_iadd dL_law_567 ?_
  refine go_slj (i := i) (j := 1) dL_law_568 rfl (by omega) h2 ?_
  refine go_aload_x dL_law_569 rfl ?_
  refine go_iload_n dL_law_570 rfl ?_
  refine go_iconst dL_law_571 (v := 2) (by decide) ?_
  refine go_iadd dL_law_572 ?_
  refine go_slj (i := i) (j := 2) dL_law_573 rfl (by omega) h2 ?_
  refine go_aload_x dL_law_574 rfl ?_
  refine go_iload_n dL_law_575 rfl ?_
  refine go_iconst dL_law_576 (v := 3) (by decide) ?_
  refine go_iadd dL_law_577 ?_
  refine go_slj (i := i) (j := 3) dL_law_578 rfl (by omega) h2 ?_
  refine go_callV (μ := m_X8_scale) (n := 582) (T := TX8) (N := 6) [.int (sk_xi xs i 1), .int (sk_xi xs i 2), .int (sk_xi xs i 3)] dL_law_579 ok_X8_scale ml_L_64 wx_X8_scale wl_X8_scale (show _ = some (0, 7) from rfl) rfl rfl (Nat.le_of_ble_eq_true rfl) ⟨Nat.le_of_ble_eq_true rfl, Nat.le_of_ble_eq_true rfl⟩ ⟨show u.1 + 0 ≤ 600000 by omega, show u.2 + 0 ≤ 7302250 by omega⟩ rfl ?_
  refine sk_Ct.mono kk (fun r h1 q => ?_)
  obtain ⟨v, e0, q⟩ := q
  subst e0
  show sk_Go Γ (sk_XL Γ n xs) (u.1 + 0, u.2 + 0) 582 [some (.float 0), some (.ref 0), some (.ref 20), some (.int (nI i))] [.int v] h1
  obtain ⟨hi1, rr1, ex1, eh, q⟩ := q
  subst eh
  refine go_aload_n dL_law_582 rfl ?_
  refine go_aload_x dL_law_583 rfl ?_
  refine go_iload_n dL_law_584 rfl ?_
  refine go_iconst dL_law_585 (v := 1) (by decide) ?_
  refine go_iadd dL_law_586 ?_
  refine go_slj (i := i) (j := 1) dL_law_587 rfl (by omega) h2 ?_
  refine go_aload_x dL_law_588 rfl ?_
  refine go_iload_n dL_law_589 rfl ?_
  refine go_iconst dL_law_590 (v := 2) (by decide) ?_
  refine go_iadd dL_law_591 ?_
  refine go_slj (i := i) (j := 2) dL_law_592 rfl (by omega) h2 ?_
  refine go_aload_x dL_law_593 rfl ?_
  refine go_iload_n dL_law_594 rfl ?_
  refine go_iconst dL_law_595 (v := 3) (by decide) ?_
  refine go_iadd dL_law_596 ?_
  refine go_slj (i := i) (j := 3) dL_law_597 rfl (by omega) h2 ?_
  refine go_callV (μ := m_X9_scale) (n := 601) (T := TX9) (N := 10) [.int (sk_xi xs i 1), .int (sk_xi xs i 2), .int (sk_xi xs i 3)] dL_law_598 ok_X9_scale ml_L_68 wx_X9_scale wl_X9_scale (show _ = some (0, 8) from rfl) rfl rfl (Nat.le_of_ble_eq_true rfl) ⟨Nat.le_of_ble_eq_true rfl, Nat.le_of_ble_eq_true rfl⟩ ⟨show u.1 + 0 + 0 ≤ 600000 by omega, show u.2 + 0 + 0 ≤ 7302250 by omega⟩ rfl ?_
  refine sk_Ct.mono q (fun r h' q2 => ?_)
  obtain ⟨e0, q2⟩ := q2
  subst e0
  show sk_Go Γ (sk_XL Γ n xs) (u.1 + 0 + 0, u.2 + 0 + 0) 601 [some (.float 0), some (.ref 0), some (.ref 20), some (.int (nI i))] [.int v, .int v] h'
  exact go_icmp_eq (tgt := 979) dL_law_601 (by decide) (fun _ => go_lwid (u' := (u.1 + 10, u.2 + 1157)) (show u.1 + 0 + 0 ≤ u.1 + 10 by omega) (show u.2 + 0 + 0 ≤ u.2 + 1157 by omega) q2) (fun c => absurd rfl c)
theorem lc_12 (h1 : i + 5 ≤ n) (h2 : n ≤ 2560) (hu : u.1 + 10 ≤ 600000 ∧ u.2 + 1157 ≤ 7302250) (kk : sk_Ct Γ m_X8_miss [.ref 0, .int (sk_xi xs i 1), .int (sk_xi xs i 2)] (sk_h hi rr ex) (fun r h1 => ∃ v, r = some (.int v) ∧ ∃ hi1 rr1 ex1, h1 = sk_h hi1 rr1 ex1 ∧ sk_Ct Γ m_X9_miss [.ref 20, .int (sk_xi xs i 1), .int (sk_xi xs i 2)] (sk_h hi1 rr1 ex1) (fun r' h' => r' = some (.int v) ∧ sk_Go Γ (sk_XL Γ n xs) (u.1 + 10, u.2 + 1157) 979 [some (.float 0), some (.ref 0), some (.ref 20), some (.int (nI i))] [] h'))) : sk_Go Γ (sk_XL Γ n xs) u 606 [some (.float 0), some (.ref 0), some (.ref 20), some (.int (nI i))] [] (sk_h hi rr ex) := by
  obtain ⟨hu1, hu2⟩ := hu
  refine go_aload_n dL_law_606 rfl ?_
  refine go_aload_x dL_law_607 rfl ?_
  refine go_iload_n dL_law_608 rfl ?_
  refine go_iconst dL_law_609 (v := 1) (by decide) ?_
  refine go_iadd dL_law_610 ?_
  refine go_slj (i := i) (j := 1) dL_law_611 rfl (by omega) h2 ?_
  refine go_aload_x dL_law_612 rfl ?_
  refine go_iload_n dL_law_613 rfl ?_
  refine go_iconst dL_law_614 (v := 2) (by decide) ?_
  refine go_iadd dL_law_615 ?_
  refine go_slj (i := i) (j := 2) dL_law_616 rfl (by omega) h2 ?_
  refine go_callV (μ := m_X8_miss) (n := 620) (T := TX8) (N := 6) [.int (sk_xi xs i 1), .int (sk_xi xs i 2)] dL_law_617 ok_X8_miss ml_L_69 wx_X8_miss wl_X8_miss (show _ = some (0, 7) from rfl) rfl rfl (Nat.le_of_ble_eq_true rfl) ⟨Nat.le_of_ble_eq_true rfl, Nat.le_of_ble_eq_true rfl⟩ ⟨show u.1 + 0 ≤ 600000 by omega, show u.2 + 0 ≤ 7302250 by omega⟩ rfl ?_
  refine sk_Ct.mono kk (fun r h1 q => ?_)
  obtain ⟨v, e0, q⟩ := q
  subst e0
  show sk_Go Γ (sk_XL Γ n xs) (u.1 + 0, u.2 + 0) 620 [some (.float 0), some (.ref 0), some (.ref 20), some (.int (nI i))] [.int v] h1
  obtain ⟨hi1, rr1, ex1, eh, q⟩ := q
  subst eh
  refine go_aload_n dL_law_620 rfl ?_
  refine go_aload_x dL_law_621 rfl ?_
  refine go_iload_n dL_law_622 rfl ?_
  refine go_iconst dL_law_623 (v := 1) (by decide) ?_
  refine go_iadd dL_law_624 ?_
  refine go_slj (i := i) (j := 1) dL_law_625 rfl (by omega) h2 ?_
  refine go_aload_x dL_law_626 rfl ?_
  refine go_iload_n dL_law_627 rfl ?_
  refine go_iconst dL_law_628 (v := 2) (by decide) ?_
  refine go_iadd dL_law_629 ?_
  refine go_slj (i := i) (j := 2) dL_law_630 rfl (by omega) h2 ?_
  refine go_callV (μ := m_X9_miss) (n := 634) (T := TX9) (N := 10) [.int (sk_xi xs i 1), .int (sk_xi xs i 2)] dL_law_631 ok_X9_miss ml_L_72 wx_X9_miss wl_X9_miss (show _ = some (0, 8) from rfl) rfl rfl (Nat.le_of_ble_eq_true rfl) ⟨Nat.le_of_ble_eq_true rfl, Nat.le_of_ble_eq_true rfl⟩ ⟨show u.1 + 0 + 0 ≤ 600000 by omega, show u.2 + 0 + 0 ≤ 7302250 by omega⟩ rfl ?_
  refine sk_Ct.mono q (fun r h' q2 => ?_)
  obtain ⟨e0, q2⟩ := q2
  subst e0
  show sk_Go Γ (sk_XL Γ n xs) (u.1 + 0 + 0, u.2 + 0 + 0) 634 [some (.float 0), some (.ref 0), some (.ref 20), some (.int (nI i))] [.int v, .int v] h'
  exact go_icmp_eq (tgt := 979) dL_law_634 (by decide) (fun _ => go_lwid (u' := (u.1 + 10, u.2 + 1157)) (show u.1 + 0 + 0 ≤ u.1 + 10 by omega) (show u.2 + 0 + 0 ≤ u.2 + 1157 by omega) q2) (fun c => absurd rfl c)
theorem lc_13 (h1 : i + 5 ≤ n) (h2 : n ≤ 2560) (hu : u.1 + 10 ≤ 600000 ∧ u.2 + 1157 ≤ 7302250) (kk : sk_Ct Γ m_X8_table [.ref 0, .int (sk_xi xs i 1), .int (sk_xi xs i 2), .int (sk_xi xs i 3)] (sk_h hi rr ex) (fun r h1 => ∃ v, r = some (.int v) ∧ ∃ hi1 rr1 ex1, h1 = sk_h hi1 rr1 ex1 ∧ sk_Ct Γ m_X9_table [.ref 20, .int (sk_xi xs i 1), .int (sk_xi xs i 2), .int (sk_xi xs i 3)] (sk_h hi1 rr1 ex1) (fun r' h' => r' = some (.int v) ∧ sk_Go Γ (sk_XL Γ n xs) (u.1 + 10, u.2 + 1157) 979 [some (.float 0), some (.ref 0), some (.ref 20), some (.int (nI i))] [] h'))) : sk_Go Γ (sk_XL Γ n xs) u 639 [some (.float 0), some (.ref 0), some (.ref 20), some (.int (nI i))] [] (sk_h hi rr ex) := by
  obtain ⟨hu1, hu2⟩ := hu
  refine go_aload_n dL_law_639 rfl ?_
  refine go_aload_x dL_law_640 rfl ?_
  refine go_iload_n dL_law_641 rfl ?_
  refine go_iconst dL_law_642 (v := 1) (by decide) ?_
  refine go_iadd dL_law_643 ?_
  refine go_slj (i := i) (j := 1) dL_law_644 rfl (by omega) h2 ?_
  refine go_aload_x dL_law_645 rfl ?_
  refine go_iload_n dL_law_646 rfl ?_
  refine go_iconst dL_law_647 (v := 2) (by decide) ?_
  refine go_iadd dL_law_648 ?_
  refine go_slj (i := i) (j := 2) dL_law_649 rfl (by omega) h2 ?_
  refine go_aload_x dL_law_650 rfl ?_
  refine go_iload_n dL_law_651 rfl ?_
  refine go_iconst dL_law_652 (v := 3) (by decide) ?_
  refine go_iadd dL_law_653 ?_
  refine go_slj (i := i) (j := 3) dL_law_654 rfl (by omega) h2 ?_
  refine go_callV (μ := m_X8_table) (n := 658) (T := TX8) (N := 6) [.int (sk_xi xs i 1), .int (sk_xi xs i 2), .int (sk_xi xs i 3)] dL_law_655 ok_X8_table ml_L_73 wx_X8_table wl_X8_table (show _ = some (0, 7) from rfl) rfl rfl (Nat.le_of_ble_eq_true rfl) ⟨Nat.le_of_ble_eq_true rfl, Nat.le_of_ble_eq_true rfl⟩ ⟨show u.1 + 0 ≤ 600000 by omega, show u.2 + 0 ≤ 7302250 by omega⟩ rfl ?_
  refine sk_Ct.mono kk (fun r h1 q => ?_)
  obtain ⟨v, e0, q⟩ := q
  subst e0
  show sk_Go Γ (sk_XL Γ n xs) (u.1 + 0, u.2 + 0) 658 [some (.float 0), some (.ref 0), some (.ref 20), some (.int (nI i))] [.int v] h1
  obtain ⟨hi1, rr1, ex1, eh, q⟩ := q
  subst eh
  refine go_aload_n dL_law_658 rfl ?_
  refine go_aload_x dL_law_659 rfl ?_
  refine go_iload_n dL_law_660 rfl ?_
  refine go_iconst dL_law_661 (v := 1) (by decide) ?_
  refine go_iadd dL_law_662 ?_
  refine go_slj (i := i) (j := 1) dL_law_663 rfl (by omega) h2 ?_
  refine go_aload_x dL_law_664 rfl ?_
  refine go_iload_n dL_law_665 rfl ?_
  refine go_iconst dL_law_666 (v := 2) (by decide) ?_
  refine go_iadd dL_law_667 ?_
  refine go_slj (i := i) (j := 2) dL_law_668 rfl (by omega) h2 ?_
  refine go_aload_x dL_law_669 rfl ?_
  refine go_iload_n dL_law_670 rfl ?_
  refine go_iconst dL_law_671 (v := 3) (by decide) ?_
  refine go_iadd dL_law_672 ?_
  refine go_slj (i := i) (j := 3) dL_law_673 rfl (by omega) h2 ?_
  refine go_callV (μ := m_X9_table) (n := 677) (T := TX9) (N := 10) [.int (sk_xi xs i 1), .int (sk_xi xs i 2), .int (sk_xi xs i 3)] dL_law_674 ok_X9_table ml_L_76 wx_X9_table wl_X9_table (show _ = some (0, 8) from rfl) rfl rfl (Nat.le_of_ble_eq_true rfl) ⟨Nat.le_of_ble_eq_true rfl, Nat.le_of_ble_eq_true rfl⟩ ⟨show u.1 + 0 + 0 ≤ 600000 by omega, show u.2 + 0 + 0 ≤ 7302250 by omega⟩ rfl ?_
  refine sk_Ct.mono q (fun r h' q2 => ?_)
  obtain ⟨e0, q2⟩ := q2
  subst e0
  show sk_Go Γ (sk_XL Γ n xs) (u.1 + 0 + 0, u.2 + 0 + 0) 677 [some (.float 0), some (.ref 0), some (.ref 20), some (.int (nI i))] [.int v, .int v] h'
  exact go_icmp_eq (tgt := 979) dL_law_677 (by decide) (fun _ => go_lwid (u' := (u.1 + 10, u.2 + 1157)) (show u.1 + 0 + 0 ≤ u.1 + 10 by omega) (show u.2 + 0 + 0 ≤ u.2 + 1157 by omega) q2) (fun c => absurd rfl c)
theorem lc_14 (h1 : i + 5 ≤ n) (h2 : n ≤ 2560) (hu : u.1 + 10 ≤ 600000 ∧ u.2 + 1157 ≤ 7302250) (kk : sk_Ct Γ m_X8_middle [.ref 0, .int (sk_xi xs i 1), .int (sk_xi xs i 2)] (sk_h hi rr ex) (fun r h1 => ∃ v, r = some (.int v) ∧ ∃ hi1 rr1 ex1, h1 = sk_h hi1 rr1 ex1 ∧ sk_Ct Γ m_X9_middle [.ref 20, .int (sk_xi xs i 1), .int (sk_xi xs i 2)] (sk_h hi1 rr1 ex1) (fun r' h' => r' = some (.int v) ∧ sk_Go Γ (sk_XL Γ n xs) (u.1 + 10, u.2 + 1157) 979 [some (.float 0), some (.ref 0), some (.ref 20), some (.int (nI i))] [] h'))) : sk_Go Γ (sk_XL Γ n xs) u 682 [some (.float 0), some (.ref 0), some (.ref 20), some (.int (nI i))] [] (sk_h hi rr ex) := by
  obtain ⟨hu1, hu2⟩ := hu
  refine go_aload_n dL_law_682 rfl ?_
  refine go_aload_x dL_law_683 rfl ?_
  refine go_iload_n dL_law_684 rfl ?_
  refine go_iconst dL_law_685 (v := 1) (by decide) ?_
  refine go_iadd dL_law_686 ?_
  refine go_slj (i := i) (j := 1) dL_law_687 rfl (by omega) h2 ?_
  refine go_aload_x dL_law_688 rfl ?_
  refine go_iload_n dL_law_689 rfl ?_
  refine go_iconst dL_law_690 (v := 2) (by decide) ?_
  refine go_iadd dL_law_691 ?_
  refine go_slj (i := i) (j := 2) dL_law_692 rfl (by omega) h2 ?_
  refine go_callV (μ := m_X8_middle) (n := 696) (T := TX8) (N := 6) [.int (sk_xi xs i 1), .int (sk_xi xs i 2)] dL_law_693 ok_X8_middle ml_L_77 wx_X8_middle wl_X8_middle (show _ = some (0, 7) from rfl) rfl rfl (Nat.le_of_ble_eq_true rfl) ⟨Nat.le_of_ble_eq_true rfl, Nat.le_of_ble_eq_true rfl⟩ ⟨show u.1 + 0 ≤ 600000 by omega, show u.2 + 0 ≤ 7302250 by omega⟩ rfl ?_
  refine sk_Ct.mono kk (fun r h1 q => ?_)
  obtain ⟨v, e0, q⟩ := q
  subst e0
  show sk_Go Γ (sk_XL Γ n xs) (u.1 + 0, u.2 + 0) 696 [some (.float 0), some (.ref 0), some (.ref 20), some (.int (nI i))] [.int v] h1
  obtain ⟨hi1, rr1, ex1, eh, q⟩ := q
  subst eh
  refine go_aload_n dL_law_696 rfl ?_
  refine go_aload_x dL_law_697 rfl ?_
  refine go_iload_n dL_law_698 rfl ?_
  refine go_iconst dL_law_699 (v := 1) (by decide) ?_
  refine go_iadd dL_law_700 ?_
  refine go_slj (i := i) (j := 1) dL_law_701 rfl (by omega) h2 ?_
  refine go_aload_x dL_law_702 rfl ?_
  refine go_iload_n dL_law_703 rfl ?_
  refine go_iconst dL_law_704 (v := 2) (by decide) ?_
  refine go_iadd dL_law_705 ?_
  refine go_slj (i := i) (j := 2) dL_law_706 rfl (by omega) h2 ?_
  refine go_callV (μ := m_X9_middle) (n := 710) (T := TX9) (N := 10) [.int (sk_xi xs i 1), .int (sk_xi xs i 2)] dL_law_707 ok_X9_middle ml_L_80 wx_X9_middle wl_X9_middle (show _ = some (0, 8) from rfl) rfl rfl (Nat.le_of_ble_eq_true rfl) ⟨Nat.le_of_ble_eq_true rfl, Nat.le_of_ble_eq_true rfl⟩ ⟨show u.1 + 0 + 0 ≤ 600000 by omega, show u.2 + 0 + 0 ≤ 7302250 by omega⟩ rfl ?_
  refine sk_Ct.mono q (fun r h' q2 => ?_)
  obtain ⟨e0, q2⟩ := q2
  subst e0
  show sk_Go Γ (sk_XL Γ n xs) (u.1 + 0 + 0, u.2 + 0 + 0) 710 [some (.float 0), some (.ref 0), some (.ref 20), some (.int (nI i))] [.int v, .int v] h'
  exact go_icmp_eq (tgt := 979) dL_law_710 (by decide) (fun _ => go_lwid (u' := (u.1 + 10, u.2 + 1157)) (show u.1 + 0 + 0 ≤ u.1 + 10 by omega) (show u.2 + 0 + 0 ≤ u.2 + 1157 by omega) q2) (fun c => absurd rfl c)
theorem lc_15 (h1 : i + 5 ≤ n) (h2 : n ≤ 2560) (hu : u.1 + 10 ≤ 600000 ∧ u.2 + 1157 ≤ 7302250) (kk : sk_Ct Γ m_X8_hops [.ref 0, .int (sk_xi xs i 1), .int (sk_xi xs i 2), .int (sk_xi xs i 3), .int (sk_xi xs i 4)] (sk_h hi rr ex) (fun r h1 => ∃ v, r = some (.int v) ∧ ∃ hi1 rr1 ex1, h1 = sk_h hi1 rr1 ex1 ∧ sk_Ct Γ m_X9_hops [.ref 20, .int (sk_xi xs i 1), .int (sk_xi xs i 2), .int (sk_xi xs i 3), .int (sk_xi xs i 4)] (sk_h hi1 rr1 ex1) (fun r' h' => r' = some (.int v) ∧ sk_Go Γ (sk_XL Γ n xs) (u.1 + 10, u.2 + 1157) 979 [some (.float 0), some (.ref 0), some (.ref 20), some (.int (nI i))] [] h'))) : sk_Go Γ (sk_XL Γ n xs) u 715 [some (.float 0), some (.ref 0), some (.ref 20), some (.int (nI i))] [] (sk_h hi rr ex) := by
  obtain ⟨hu1, hu2⟩ := hu
  refine go_aload_n dL_law_715 rfl ?_
  refine go_aload_x dL_law_716 rfl ?_
  refine go_iload_n dL_law_717 rfl ?_
  refine go_iconst dL_law_718 (v := 1) (by decide) ?_
  refine go_iadd dL_law_719 ?_
  refine go_slj (i := i) (j := 1) dL_law_720 rfl (by omega) h2 ?_
  refine go_aload_x dL_law_721 rfl ?_
  refine go_iload_n dL_law_722 rfl ?_
  refine go_iconst dL_law_723 (v := 2) (by decide) ?_
  refine go_iadd dL_law_724 ?_
  refine go_slj (i := i) (j := 2) dL_law_725 rfl (by omega) h2 ?_
  refine go_aload_x dL_law_726 rfl ?_
  refine go_iload_n dL_law_727 rfl ?_
  refine go_iconst dL_law_728 (v := 3) (by decide) ?_
  refine go_iadd dL_law_729 ?_
  refine go_slj (i := i) (j := 3) dL_law_730 rfl (by omega) h2 ?_
  refine go_aload_x dL_law_731 rfl ?_
  refine go_iload_n dL_law_732 rfl ?_
  refine go_iconst dL_law_733 (v := 4) (by decide) ?_
  refine go_iadd dL_law_734 ?_
  refine go_slj (i := i) (j := 4) dL_law_735 rfl (by omega) h2 ?_
  refine go_callV (μ := m_X8_hops) (n := 739) (T := TX8) (N := 6) [.int (sk_xi xs i 1), .int (sk_xi xs i 2), .int (sk_xi xs i 3), .int (sk_xi xs i 4)] dL_law_736 ok_X8_hops ml_L_81 wx_X8_hops wl_X8_hops (show _ = some (0, 7) from rfl) rfl rfl (Nat.le_of_ble_eq_true rfl) ⟨Nat.le_of_ble_eq_true rfl, Nat.le_of_ble_eq_true rfl⟩ ⟨show u.1 + 0 ≤ 600000 by omega, show u.2 + 0 ≤ 7302250 by omega⟩ rfl ?_
  refine sk_Ct.mono kk (fun r h1 q => ?_)
  obtain ⟨v, e0, q⟩ := q
  subst e0
  show sk_Go Γ (sk_XL Γ n xs) (u.1 + 0, u.2 + 0) 739 [some (.float 0), some (.ref 0), some (.ref 20), some (.int (nI i))] [.int v] h1
  obtain ⟨hi1, rr1, ex1, eh, q⟩ := q
  subst eh
  refine go_aload_n dL_law_739 rfl ?_
  refine go_aload_x dL_law_740 rfl ?_
  refine go_iload_n dL_law_741 rfl ?_
  refine go_iconst dL_law_742 (v := 1) (by decide) ?_
  refine go_iadd dL_law_743 ?_
  refine go_slj (i := i) (j := 1) dL_law_744 rfl (by omega) h2 ?_
  refine go_aload_x dL_law_745 rfl ?_
  refine go_iload_n dL_law_746 rfl ?_
  refine go_iconst dL_law_747 (v := 2) (by decide) ?_
  refine go_iadd dL_law_748 ?_
  refine go_slj (i := i) (j := 2) dL_law_749 rfl (by omega) h2 ?_
  refine go_aload_x dL_law_750 rfl ?_
  refine go_iload_n dL_law_751 rfl ?_
  refine go_iconst dL_law_752 (v := 3) (by decide) ?_
  refine go_iadd dL_law_753 ?_
  refine go_slj (i := i) (j := 3) dL_law_754 rfl (by omega) h2 ?_
  refine go_aload_x dL_law_755 rfl ?_
  refine go_iload_n dL_law_756 rfl ?_
  refine go_iconst dL_law_757 (v := 4) (by decide) ?_
  refine go_iadd dL_law_758 ?_
  refine go_slj (i := i) (j := 4) dL_law_759 rfl (by omega) h2 ?_
  refine go_callV (μ := m_X9_hops) (n := 763) (T := TX9) (N := 10) [.int (sk_xi xs i 1), .int (sk_xi xs i 2), .int (sk_xi xs i 3), .int (sk_xi xs i 4)] dL_law_760 ok_X9_hops ml_L_84 wx_X9_hops wl_X9_hops (show _ = some (0, 8) from rfl) rfl rfl (Nat.le_of_ble_eq_true rfl) ⟨Nat.le_of_ble_eq_true rfl, Nat.le_of_ble_eq_true rfl⟩ ⟨show u.1 + 0 + 0 ≤ 600000 by omega, show u.2 + 0 + 0 ≤ 7302250 by omega⟩ rfl ?_
  refine sk_Ct.mono q (fun r h' q2 => ?_)
  obtain ⟨e0, q2⟩ := q2
  subst e0
  show sk_Go Γ (sk_XL Γ n xs) (u.1 + 0 + 0, u.2 + 0 + 0) 763 [some (.float 0), some (.ref 0), some (.ref 20), some (.int (nI i))] [.int v, .int v] h'
  exact go_icmp_eq (tgt := 979) dL_law_763 (by decide) (fun _ => go_lwid (u' := (u.1 + 10, u.2 + 1157)) (show u.1 + 0 + 0 ≤ u.1 + 10 by omega) (show u.2 + 0 + 0 ≤ u.2 + 1157 by omega) q2) (fun c => absurd rfl c)
theorem lc_16 (h1 : i + 5 ≤ n) (h2 : n ≤ 2560) (hu : u.1 + 10 ≤ 600000 ∧ u.2 + 1157 ≤ 7302250) (kk : sk_Ct Γ m_X8_fewest [.ref 0, .int (sk_xi xs i 1), .int (sk_xi xs i 2)] (sk_h hi rr ex) (fun r h1 => ∃ v, r = some (.int v) ∧ ∃ hi1 rr1 ex1, h1 = sk_h hi1 rr1 ex1 ∧ sk_Ct Γ m_X9_fewest [.ref 20, .int (sk_xi xs i 1), .int (sk_xi xs i 2)] (sk_h hi1 rr1 ex1) (fun r' h' => r' = some (.int v) ∧ sk_Go Γ (sk_XL Γ n xs) (u.1 + 10, u.2 + 1157) 979 [some (.float 0), some (.ref 0), some (.ref 20), some (.int (nI i))] [] h'))) : sk_Go Γ (sk_XL Γ n xs) u 768 [some (.float 0), some (.ref 0), some (.ref 20), some (.int (nI i))] [] (sk_h hi rr ex) := by
  obtain ⟨hu1, hu2⟩ := hu
  refine go_aload_n dL_law_768 rfl ?_
  refine go_aload_x dL_law_769 rfl ?_
  refine go_iload_n dL_law_770 rfl ?_
  refine go_iconst dL_law_771 (v := 1) (by decide) ?_
  refine go_iadd dL_law_772 ?_
  refine go_slj (i := i) (j := 1) dL_law_773 rfl (by omega) h2 ?_
  refine go_aload_x dL_law_774 rfl ?_
  refine go_iload_n dL_law_775 rfl ?_
  refine go_iconst dL_law_776 (v := 2) (by decide) ?_
  refine go_iadd dL_law_777 ?_
  refine go_slj (i := i) (j := 2) dL_law_778 rfl (by omega) h2 ?_
  refine go_callV (μ := m_X8_fewest) (n := 782) (T := TX8) (N := 6) [.int (sk_xi xs i 1), .int (sk_xi xs i 2)] dL_law_779 ok_X8_fewest ml_L_85 wx_X8_fewest wl_X8_fewest (show _ = some (0, 7) from rfl) rfl rfl (Nat.le_of_ble_eq_true rfl) ⟨Nat.le_of_ble_eq_true rfl, Nat.le_of_ble_eq_true rfl⟩ ⟨show u.1 + 0 ≤ 600000 by omega, show u.2 + 0 ≤ 7302250 by omega⟩ rfl ?_
  refine sk_Ct.mono kk (fun r h1 q => ?_)
  obtain ⟨v, e0, q⟩ := q
  subst e0
  show sk_Go Γ (sk_XL Γ n xs) (u.1 + 0, u.2 + 0) 782 [some (.float 0), some (.ref 0), some (.ref 20), some (.int (nI i))] [.int v] h1
  obtain ⟨hi1, rr1, ex1, eh, q⟩ := q
  subst eh
  refine go_aload_n dL_law_782 rfl ?_
  refine go_aload_x dL_law_783 rfl ?_
  refine go_iload_n dL_law_784 rfl ?_
  refine go_iconst dL_law_785 (v := 1) (by decide) ?_
  refine go_iadd dL_law_786 ?_
  refine go_slj (i := i) (j := 1) dL_law_787 rfl (by omega) h2 ?_
  refine go_aload_x dL_law_788 rfl ?_
  refine go_iload_n dL_law_789 rfl ?_
  refine go_iconst dL_law_790 (v := 2) (by decide) ?_
  refine go_iadd dL_law_791 ?_
  refine go_slj (i := i) (j := 2) dL_law_792 rfl (by omega) h2 ?_
  refine go_callV (μ := m_X9_fewest) (n := 796) (T := TX9) (N := 10) [.int (sk_xi xs i 1), .int (sk_xi xs i 2)] dL_law_793 ok_X9_fewest ml_L_88 wx_X9_fewest wl_X9_fewest (show _ = some (0, 8) from rfl) rfl rfl (Nat.le_of_ble_eq_true rfl) ⟨Nat.le_of_ble_eq_true rfl, Nat.le_of_ble_eq_true rfl⟩ ⟨show u.1 + 0 + 0 ≤ 600000 by omega, show u.2 + 0 + 0 ≤ 7302250 by omega⟩ rfl ?_
  refine sk_Ct.mono q (fun r h' q2 => ?_)
  obtain ⟨e0, q2⟩ := q2
  subst e0
  show sk_Go Γ (sk_XL Γ n xs) (u.1 + 0 + 0, u.2 + 0 + 0) 796 [some (.float 0), some (.ref 0), some (.ref 20), some (.int (nI i))] [.int v, .int v] h'
  exact go_icmp_eq (tgt := 979) dL_law_796 (by decide) (fun _ => go_lwid (u' := (u.1 + 10, u.2 + 1157)) (show u.1 + 0 + 0 ≤ u.1 + 10 by omega) (show u.2 + 0 + 0 ≤ u.2 + 1157 by omega) q2) (fun c => absurd rfl c)
theorem lc_17 (h1 : i + 5 ≤ n) (h2 : n ≤ 2560) (hu : u.1 + 10 ≤ 600000 ∧ u.2 + 1157 ≤ 7302250) (kk : sk_Ct Γ m_X8_station [.ref 0, .int (sk_xi xs i 1), .int (sk_xi xs i 2), .int (sk_xi xs i 3)] (sk_h hi rr ex) (fun r h1 => ∃ v, r = some (.int v) ∧ ∃ hi1 rr1 ex1, h1 = sk_h hi1 rr1 ex1 ∧ sk_Ct Γ m_X9_station [.ref 20, .int (sk_xi xs i 1), .int (sk_xi xs i 2), .int (sk_xi xs i 3)] (sk_h hi1 rr1 ex1) (fun r' h' => r' = some (.int v) ∧ sk_Go Γ (sk_XL Γ n xs) (u.1 + 10, u.2 + 1157) 979 [some (.float 0), some (.ref 0), some (.ref 20), some (.int (nI i))] [] h'))) : sk_Go Γ (sk_XL Γ n xs) u 801 [some (.float 0), some (.ref 0), some (.ref 20), some (.int (nI i))] [] (sk_h hi rr ex) := by
  obtain ⟨hu1, hu2⟩ := hu
  refine go_aload_n dL_law_801 rfl ?_
  refine go_aload_x dL_law_802 rfl ?_
  refine go_iload_n dL_law_803 rfl ?_
  refine go_iconst dL_law_804 (v := 1) (by decide) ?_
  refine go_iadd dL_law_805 ?_
  refine go_slj (i := i) (j := 1) dL_law_806 rfl (by omega) h2 ?_
  refine go_aload_x dL_law_807 rfl ?_
  refine go_iload_n dL_law_808 rfl ?_
  refine go_iconst dL_law_809 (v := 2) (by decide) ?_
  refine go_iadd dL_law_810 ?_
  refine go_slj (i := i) (j := 2) dL_law_811 rfl (by omega) h2 ?_
  refine go_aload_x dL_law_812 rfl ?_
  refine go_iload_n dL_law_813 rfl ?_
  refine go_iconst dL_law_814 (v := 3) (by decide) ?_
  refine go_iadd dL_law_815 ?_
  refine go_slj (i := i) (j := 3) dL_law_816 rfl (by omega) h2 ?_
  refine go_callV (μ := m_X8_station) (n := 820) (T := TX8) (N := 6) [.int (sk_xi xs i 1), .int (sk_xi xs i 2), .int (sk_xi xs i 3)] dL_law_817 ok_X8_station ml_L_89 wx_X8_station wl_X8_station (show _ = some (0, 7) from rfl) rfl rfl (Nat.le_of_ble_eq_true rfl) ⟨Nat.le_of_ble_eq_true rfl, Nat.le_of_ble_eq_true rfl⟩ ⟨show u.1 + 0 ≤ 600000 by omega, show u.2 + 0 ≤ 7302250 by omega⟩ rfl ?_
  refine sk_Ct.mono kk (fun r h1 q => ?_)
  obtain ⟨v, e0, q⟩ := q
  subst e0
  show sk_Go Γ (sk_XL Γ n xs) (u.1 + 0, u.2 + 0) 820 [some (.float 0), some (.ref 0), some (.ref 20), some (.int (nI i))] [.int v] h1
  obtain ⟨hi1, rr1, ex1, eh, q⟩ := q
  subst eh
  refine go_aload_n dL_law_820 rfl ?_
  refine go_aload_x dL_law_821 rfl ?_
  refine go_iload_n dL_law_822 rfl ?_
  refine go_iconst dL_law_823 (v := 1) (by decide) ?_
  refine go_iadd dL_law_824 ?_
  refine go_slj (i := i) (j := 1) dL_law_825 rfl (by omega) h2 ?_
  refine go_aload_x dL_law_826 rfl ?_
  refine go_iload_n dL_law_827 rfl ?_
  refine go_iconst dL_law_828 (v := 2) (by decide) ?_
  refine go_iadd dL_law_829 ?_
  refine go_slj (i := i) (j := 2) dL_law_830 rfl (by omega) h2 ?_
  refine go_aload_x dL_law_831 rfl ?_
  refine go_iload_n dL_law_832 rfl ?_
  refine go_iconst dL_law_833 (v := 3) (by decide) ?_
  refine go_iadd dL_law_834 ?_
  refine go_slj (i := i) (j := 3) dL_law_835 rfl (by omega) h2 ?_
  refine go_callV (μ := m_X9_station) (n := 839) (T := TX9) (N := 10) [.int (sk_xi xs i 1), .int (sk_xi xs i 2), .int (sk_xi xs i 3)] dL_law_836 ok_X9_station ml_L_92 wx_X9_station wl_X9_station (show _ = some (0, 8) from rfl) rfl rfl (Nat.le_of_ble_eq_true rfl) ⟨Nat.le_of_ble_eq_true rfl, Nat.le_of_ble_eq_true rfl⟩ ⟨show u.1 + 0 + 0 ≤ 600000 by omega, show u.2 + 0 + 0 ≤ 7302250 by omega⟩ rfl ?_
  refine sk_Ct.mono q (fun r h' q2 => ?_)
  obtain ⟨e0, q2⟩ := q2
  subst e0
  show sk_Go Γ (sk_XL Γ n xs) (u.1 + 0 + 0, u.2 + 0 + 0) 839 [some (.float 0), some (.ref 0), some (.ref 20), some (.int (nI i))] [.int v, .int v] h'
  exact go_icmp_eq (tgt := 979) dL_law_839 (by decide) (fun _ => go_lwid (u' := (u.1 + 10, u.2 + 1157)) (show u.1 + 0 + 0 ≤ u.1 + 10 by omega) (show u.2 + 0 + 0 ≤ u.2 + 1157 by omega) q2) (fun c => absurd rfl c)
theorem lc_18 (h1 : i + 5 ≤ n) (h2 : n ≤ 2560) (hu : u.1 + 10 ≤ 600000 ∧ u.2 + 1157 ≤ 7302250) (kk : sk_Ct Γ m_X8_tellStation [.ref 0, .int (sk_xi xs i 1), .int (sk_xi xs i 2)] (sk_h hi rr ex) (fun r h1 => ∃ v, r = some (.int v) ∧ ∃ hi1 rr1 ex1, h1 = sk_h hi1 rr1 ex1 ∧ sk_Ct Γ m_X9_tellStation [.ref 20, .int (sk_xi xs i 1), .int (sk_xi xs i 2)] (sk_h hi1 rr1 ex1) (fun r' h' => r' = some (.int v) ∧ sk_Go Γ (sk_XL Γ n xs) (u.1 + 10, u.2 + 1157) 979 [some (.float 0), some (.ref 0), some (.ref 20), some (.int (nI i))] [] h'))) : sk_Go Γ (sk_XL Γ n xs) u 844 [some (.float 0), some (.ref 0), some (.ref 20), some (.int (nI i))] [] (sk_h hi rr ex) := by
  obtain ⟨hu1, hu2⟩ := hu
  refine go_aload_n dL_law_844 rfl ?_
  refine go_aload_x dL_law_845 rfl ?_
  refine go_iload_n dL_law_846 rfl ?_
  refine go_iconst dL_law_847 (v := 1) (by decide) ?_
  refine go_iadd dL_law_848 ?_
  refine go_slj (i := i) (j := 1) dL_law_849 rfl (by omega) h2 ?_
  refine go_aload_x dL_law_850 rfl ?_
  refine go_iload_n dL_law_851 rfl ?_
  refine go_iconst dL_law_852 (v := 2) (by decide) ?_
  refine go_iadd dL_law_853 ?_
  refine go_slj (i := i) (j := 2) dL_law_854 rfl (by omega) h2 ?_
  refine go_callV (μ := m_X8_tellStation) (n := 858) (T := TX8) (N := 6) [.int (sk_xi xs i 1), .int (sk_xi xs i 2)] dL_law_855 ok_X8_tellStation ml_L_93 wx_X8_tellStation wl_X8_tellStation (show _ = some (0, 7) from rfl) rfl rfl (Nat.le_of_ble_eq_true rfl) ⟨Nat.le_of_ble_eq_true rfl, Nat.le_of_ble_eq_true rfl⟩ ⟨show u.1 + 0 ≤ 600000 by omega, show u.2 + 0 ≤ 7302250 by omega⟩ rfl ?_
  refine sk_Ct.mono kk (fun r h1 q => ?_)
  obtain ⟨v, e0, q⟩ := q
  subst e0
  show sk_Go Γ (sk_XL Γ n xs) (u.1 + 0, u.2 + 0) 858 [some (.float 0), some (.ref 0), some (.ref 20), some (.int (nI i))] [.int v] h1
  obtain ⟨hi1, rr1, ex1, eh, q⟩ := q
  subst eh
  refine go_aload_n dL_law_858 rfl ?_
  refine go_aload_x dL_law_859 rfl ?_
  refine go_iload_n dL_law_860 rfl ?_
  refine go_iconst dL_law_861 (v := 1) (by decide) ?_
  refine go_iadd dL_law_862 ?_
  refine go_slj (i := i) (j := 1) dL_law_863 rfl (by omega) h2 ?_
  refine go_aload_x dL_law_864 rfl ?_
  refine go_iload_n dL_law_865 rfl ?_
  refine go_iconst dL_law_866 (v := 2) (by decide) ?_
  refine go_iadd dL_law_867 ?_
  refine go_slj (i := i) (j := 2) dL_law_868 rfl (by omega) h2 ?_
  refine go_callV (μ := m_X9_tellStation) (n := 872) (T := TX9) (N := 10) [.int (sk_xi xs i 1), .int (sk_xi xs i 2)] dL_law_869 ok_X9_tellStation ml_L_96 wx_X9_tellStation wl_X9_tellStation (show _ = some (0, 8) from rfl) rfl rfl (Nat.le_of_ble_eq_true rfl) ⟨Nat.le_of_ble_eq_true rfl, Nat.le_of_ble_eq_true rfl⟩ ⟨show u.1 + 0 + 0 ≤ 600000 by omega, show u.2 + 0 + 0 ≤ 7302250 by omega⟩ rfl ?_
  refine sk_Ct.mono q (fun r h' q2 => ?_)
  obtain ⟨e0, q2⟩ := q2
  subst e0
  show sk_Go Γ (sk_XL Γ n xs) (u.1 + 0 + 0, u.2 + 0 + 0) 872 [some (.float 0), some (.ref 0), some (.ref 20), some (.int (nI i))] [.int v, .int v] h'
  exact go_icmp_eq (tgt := 979) dL_law_872 (by decide) (fun _ => go_lwid (u' := (u.1 + 10, u.2 + 1157)) (show u.1 + 0 + 0 ≤ u.1 + 10 by omega) (show u.2 + 0 + 0 ≤ u.2 + 1157 by omega) q2) (fun c => absurd rfl c)
theorem lc_19 (h1 : i + 5 ≤ n) (h2 : n ≤ 2560) (hu : u.1 + 10 ≤ 600000 ∧ u.2 + 1157 ≤ 7302250) (kk : sk_Ct Γ m_X8_map [.ref 0, .int (sk_xi xs i 1), .int (sk_xi xs i 2)] (sk_h hi rr ex) (fun r h1 => ∃ v, r = some (.int v) ∧ ∃ hi1 rr1 ex1, h1 = sk_h hi1 rr1 ex1 ∧ sk_Ct Γ m_X9_map [.ref 20, .int (sk_xi xs i 1), .int (sk_xi xs i 2)] (sk_h hi1 rr1 ex1) (fun r' h' => r' = some (.int v) ∧ sk_Go Γ (sk_XL Γ n xs) (u.1 + 10, u.2 + 1157) 979 [some (.float 0), some (.ref 0), some (.ref 20), some (.int (nI i))] [] h'))) : sk_Go Γ (sk_XL Γ n xs) u 877 [some (.float 0), some (.ref 0), some (.ref 20), some (.int (nI i))] [] (sk_h hi rr ex) := by
  obtain ⟨hu1, hu2⟩ := hu
  refine go_aload_n dL_law_877 rfl ?_
  refine go_aload_x dL_law_878 rfl ?_
  refine go_iload_n dL_law_879 rfl ?_
  refine go_iconst dL_law_880 (v := 1) (by decide) ?_
  refine go_iadd dL_law_881 ?_
  refine go_slj (i := i) (j := 1) dL_law_882 rfl (by omega) h2 ?_
  refine go_aload_x dL_law_883 rfl ?_
  refine go_iload_n dL_law_884 rfl ?_
  refine go_iconst dL_law_885 (v := 2) (by decide) ?_
  refine go_iadd dL_law_886 ?_
  refine go_slj (i := i) (j := 2) dL_law_887 rfl (by omega) h2 ?_
  refine go_callV (μ := m_X8_map) (n := 891) (T := TX8) (N := 6) [.int (sk_xi xs i 1), .int (sk_xi xs i 2)] dL_law_888 ok_X8_map ml_L_97 wx_X8_map wl_X8_map (show _ = some (0, 7) from rfl) rfl rfl (Nat.le_of_ble_eq_true rfl) ⟨Nat.le_of_ble_eq_true rfl, Nat.le_of_ble_eq_true rfl⟩ ⟨show u.1 + 0 ≤ 600000 by omega, show u.2 + 0 ≤ 7302250 by omega⟩ rfl ?_
  refine sk_Ct.mono kk (fun r h1 q => ?_)
  obtain ⟨v, e0, q⟩ := q
  subst e0
  show sk_Go Γ (sk_XL Γ n xs) (u.1 + 0, u.2 + 0) 891 [some (.float 0), some (.ref 0), some (.ref 20), some (.int (nI i))] [.int v] h1
  obtain ⟨hi1, rr1, ex1, eh, q⟩ := q
  subst eh
  refine go_aload_n dL_law_891 rfl ?_
  refine go_aload_x dL_law_892 rfl ?_
  refine go_iload_n dL_law_893 rfl ?_
  refine go_iconst dL_law_894 (v := 1) (by decide) ?_
  refine go_iadd dL_law_895 ?_
  refine go_slj (i := i) (j := 1) dL_law_896 rfl (by omega) h2 ?_
  refine go_aload_x dL_law_897 rfl ?_
  refine go_iload_n dL_law_898 rfl ?_
  refine go_iconst dL_law_899 (v := 2) (by decide) ?_
  refine go_iadd dL_law_900 ?_
  refine go_slj (i := i) (j := 2) dL_law_901 rfl (by omega) h2 ?_
  refine go_callV (μ := m_X9_map) (n := 905) (T := TX9) (N := 10) [.int (sk_xi xs i 1), .int (sk_xi xs i 2)] dL_law_902 ok_X9_map ml_L_100 wx_X9_map wl_X9_map (show _ = some (0, 8) from rfl) rfl rfl (Nat.le_of_ble_eq_true rfl) ⟨Nat.le_of_ble_eq_true rfl, Nat.le_of_ble_eq_true rfl⟩ ⟨show u.1 + 0 + 0 ≤ 600000 by omega, show u.2 + 0 + 0 ≤ 7302250 by omega⟩ rfl ?_
  refine sk_Ct.mono q (fun r h' q2 => ?_)
  obtain ⟨e0, q2⟩ := q2
  subst e0
  show sk_Go Γ (sk_XL Γ n xs) (u.1 + 0 + 0, u.2 + 0 + 0) 905 [some (.float 0), some (.ref 0), some (.ref 20), some (.int (nI i))] [.int v, .int v] h'
  exact go_icmp_eq (tgt := 979) dL_law_905 (by decide) (fun _ => go_lwid (u' := (u.1 + 10, u.2 + 1157)) (show u.1 + 0 + 0 ≤ u.1 + 10 by omega) (show u.2 + 0 + 0 ≤ u.2 + 1157 by omega) q2) (fun c => absurd rfl c)
theorem lc_20 (h1 : i + 5 ≤ n) (h2 : n ≤ 2560) (hu : u.1 + 10 ≤ 600000 ∧ u.2 + 1157 ≤ 7302250) (kk : sk_Ct Γ m_X8_count [.ref 0, .int (sk_xi xs i 1)] (sk_h hi rr ex) (fun r h1 => ∃ v, r = some (.int v) ∧ ∃ hi1 rr1 ex1, h1 = sk_h hi1 rr1 ex1 ∧ sk_Ct Γ m_X9_count [.ref 20, .int (sk_xi xs i 1)] (sk_h hi1 rr1 ex1) (fun r' h' => r' = some (.int v) ∧ sk_Go Γ (sk_XL Γ n xs) (u.1 + 10, u.2 + 1157) 979 [some (.float 0), some (.ref 0), some (.ref 20), some (.int (nI i))] [] h'))) : sk_Go Γ (sk_XL Γ n xs) u 910 [some (.float 0), some (.ref 0), some (.ref 20), some (.int (nI i))] [] (sk_h hi rr ex) := by
  obtain ⟨hu1, hu2⟩ := hu
  refine go_aload_n dL_law_910 rfl ?_
  refine go_aload_x dL_law_911 rfl ?_
  refine go_iload_n dL_law_912 rfl ?_
  refine go_iconst dL_law_913 (v := 1) (by decide) ?_
  refine go_iadd dL_law_914 ?_
  refine go_slj (i := i) (j := 1) dL_law_915 rfl (by omega) h2 ?_
  refine go_callV (μ := m_X8_count) (n := 919) (T := TX8) (N := 6) [.int (sk_xi xs i 1)] dL_law_916 ok_X8_count ml_L_101 wx_X8_count wl_X8_count (show _ = some (0, 7) from rfl) rfl rfl (Nat.le_of_ble_eq_true rfl) ⟨Nat.le_of_ble_eq_true rfl, Nat.le_of_ble_eq_true rfl⟩ ⟨show u.1 + 0 ≤ 600000 by omega, show u.2 + 0 ≤ 7302250 by omega⟩ rfl ?_
  refine sk_Ct.mono kk (fun r h1 q => ?_)
  obtain ⟨v, e0, q⟩ := q
  subst e0
  show sk_Go Γ (sk_XL Γ n xs) (u.1 + 0, u.2 + 0) 919 [some (.float 0), some (.ref 0), some (.ref 20), some (.int (nI i))] [.int v] h1
  obtain ⟨hi1, rr1, ex1, eh, q⟩ := q
  subst eh
  refine go_aload_n dL_law_919 rfl ?_
  refine go_aload_x dL_law_920 rfl ?_
  refine go_iload_n dL_law_921 rfl ?_
  refine go_iconst dL_law_922 (v := 1) (by decide) ?_
  refine go_iadd dL_law_923 ?_
  refine go_slj (i := i) (j := 1) dL_law_924 rfl (by omega) h2 ?_
  refine go_callV (μ := m_X9_count) (n := 928) (T := TX9) (N := 10) [.int (sk_xi xs i 1)] dL_law_925 ok_X9_count ml_L_104 wx_X9_count wl_X9_count (show _ = some (0, 8) from rfl) rfl rfl (Nat.le_of_ble_eq_true rfl) ⟨Nat.le_of_ble_eq_true rfl, Nat.le_of_ble_eq_true rfl⟩ ⟨show u.1 + 0 + 0 ≤ 600000 by omega, show u.2 + 0 + 0 ≤ 7302250 by omega⟩ rfl ?_
  refine sk_Ct.mono q (fun r h' q2 => ?_)
  obtain ⟨e0, q2⟩ := q2
  subst e0
  show sk_Go Γ (sk_XL Γ n xs) (u.1 + 0 + 0, u.2 + 0 + 0) 928 [some (.float 0), some (.ref 0), some (.ref 20), some (.int (nI i))] [.int v, .int v] h'
  exact go_icmp_eq (tgt := 979) dL_law_928 (by decide) (fun _ => go_lwid (u' := (u.1 + 10, u.2 + 1157)) (show u.1 + 0 + 0 ≤ u.1 + 10 by omega) (show u.2 + 0 + 0 ≤ u.2 + 1157 by omega) q2) (fun c => absurd rfl c)
theorem lc_21 (h1 : i + 5 ≤ n) (h2 : n ≤ 2560) (hu : u.1 + 10 ≤ 600000 ∧ u.2 + 1157 ≤ 7302250) (kk : sk_Ct Γ m_X8_image [.ref 0, .int (sk_xi xs i 1)] (sk_h hi rr ex) (fun r h1 => ∃ v, r = some (.int v) ∧ ∃ hi1 rr1 ex1, h1 = sk_h hi1 rr1 ex1 ∧ sk_Ct Γ m_X9_image [.ref 20, .int (sk_xi xs i 1)] (sk_h hi1 rr1 ex1) (fun r' h' => r' = some (.int v) ∧ sk_Go Γ (sk_XL Γ n xs) (u.1 + 10, u.2 + 1157) 979 [some (.float 0), some (.ref 0), some (.ref 20), some (.int (nI i))] [] h'))) : sk_Go Γ (sk_XL Γ n xs) u 933 [some (.float 0), some (.ref 0), some (.ref 20), some (.int (nI i))] [] (sk_h hi rr ex) := by
  obtain ⟨hu1, hu2⟩ := hu
  refine go_aload_n dL_law_933 rfl ?_
  refine go_aload_x dL_law_934 rfl ?_
  refine go_iload_n dL_law_935 rfl ?_
  refine go_iconst dL_law_936 (v := 1) (by decide) ?_
  refine go_iadd dL_law_937 ?_
  refine go_slj (i := i) (j := 1) dL_law_938 rfl (by omega) h2 ?_
  refine go_callV (μ := m_X8_image) (n := 942) (T := TX8) (N := 6) [.int (sk_xi xs i 1)] dL_law_939 ok_X8_image ml_L_105 wx_X8_image wl_X8_image (show _ = some (0, 7) from rfl) rfl rfl (Nat.le_of_ble_eq_true rfl) ⟨Nat.le_of_ble_eq_true rfl, Nat.le_of_ble_eq_true rfl⟩ ⟨show u.1 + 10 ≤ 600000 by omega, show u.2 + 1157 ≤ 7302250 by omega⟩ rfl ?_
  refine sk_Ct.mono kk (fun r h1 q => ?_)
  obtain ⟨v, e0, q⟩ := q
  subst e0
  show sk_Go Γ (sk_XL Γ n xs) (u.1 + 10, u.2 + 1157) 942 [some (.float 0), some (.ref 0), some (.ref 20), some (.int (nI i))] [.int v] h1
  obtain ⟨hi1, rr1, ex1, eh, q⟩ := q
  subst eh
  refine go_aload_n dL_law_942 rfl ?_
  refine go_aload_x dL_law_943 rfl ?_
  refine go_iload_n dL_law_944 rfl ?_
  refine go_iconst dL_law_945 (v := 1) (by decide) ?_
  refine go_iadd dL_law_946 ?_
  refine go_slj (i := i) (j := 1) dL_law_947 rfl (by omega) h2 ?_
  refine go_callV (μ := m_X9_image) (n := 951) (T := TX9) (N := 10) [.int (sk_xi xs i 1)] dL_law_948 ok_X9_image ml_L_108 wx_X9_image wl_X9_image (show _ = some (0, 8) from rfl) rfl rfl (Nat.le_of_ble_eq_true rfl) ⟨Nat.le_of_ble_eq_true rfl, Nat.le_of_ble_eq_true rfl⟩ ⟨show u.1 + 10 + 0 ≤ 600000 by omega, show u.2 + 1157 + 0 ≤ 7302250 by omega⟩ rfl ?_
  refine sk_Ct.mono q (fun r h' q2 => ?_)
  obtain ⟨e0, q2⟩ := q2
  subst e0
  show sk_Go Γ (sk_XL Γ n xs) (u.1 + 10 + 0, u.2 + 1157 + 0) 951 [some (.float 0), some (.ref 0), some (.ref 20), some (.int (nI i))] [.int v, .int v] h'
  exact go_icmp_eq (tgt := 979) dL_law_951 (by decide) (fun _ => go_lwid (u' := (u.1 + 10, u.2 + 1157)) (show u.1 + 10 + 0 ≤ u.1 + 10 by omega) (show u.2 + 1157 + 0 ≤ u.2 + 1157 by omega) q2) (fun c => absurd rfl c)
theorem lc_22 (h1 : i + 5 ≤ n) (h2 : n ≤ 2560) (hu : u.1 + 10 ≤ 600000 ∧ u.2 + 1157 ≤ 7302250) (kk : sk_Ct Γ m_X8_again [.ref 0, .int (sk_xi xs i 1)] (sk_h hi rr ex) (fun r h1 => ∃ v, r = some (.int v) ∧ ∃ hi1 rr1 ex1, h1 = sk_h hi1 rr1 ex1 ∧ sk_Ct Γ m_X9_again [.ref 20, .int (sk_xi xs i 1)] (sk_h hi1 rr1 ex1) (fun r' h' => r' = some (.int v) ∧ sk_Go Γ (sk_XL Γ n xs) (u.1 + 10, u.2 + 1157) 979 [some (.float 0), some (.ref 0), some (.ref 20), some (.int (nI i))] [] h'))) : sk_Go Γ (sk_XL Γ n xs) u 956 [some (.float 0), some (.ref 0), some (.ref 20), some (.int (nI i))] [] (sk_h hi rr ex) := by
  obtain ⟨hu1, hu2⟩ := hu
  refine go_aload_n dL_law_956 rfl ?_
  refine go_aload_x dL_law_957 rfl ?_
  refine go_iload_n dL_law_958 rfl ?_
  refine go_iconst dL_law_959 (v := 1) (by decide) ?_
  refine go_iadd dL_law_960 ?_
  refine go_slj (i := i) (j := 1) dL_law_961 rfl (by omega) h2 ?_
  refine go_callV (μ := m_X8_again) (n := 965) (T := TX8) (N := 6) [.int (sk_xi xs i 1)] dL_law_962 ok_X8_again ml_L_109 wx_X8_again wl_X8_again (show _ = some (0, 7) from rfl) rfl rfl (Nat.le_of_ble_eq_true rfl) ⟨Nat.le_of_ble_eq_true rfl, Nat.le_of_ble_eq_true rfl⟩ ⟨show u.1 + 0 ≤ 600000 by omega, show u.2 + 0 ≤ 7302250 by omega⟩ rfl ?_
  refine sk_Ct.mono kk (fun r h1 q => ?_)
  obtain ⟨v, e0, q⟩ := q
  subst e0
  show sk_Go Γ (sk_XL Γ n xs) (u.1 + 0, u.2 + 0) 965 [some (.float 0), some (.ref 0), some (.ref 20), some (.int (nI i))] [.int v] h1
  obtain ⟨hi1, rr1, ex1, eh, q⟩ := q
  subst eh
  refine go_aload_n dL_law_965 rfl ?_
  refine go_aload_x dL_law_966 rfl ?_
  refine go_iload_n dL_law_967 rfl ?_
  refine go_iconst dL_law_968 (v := 1) (by decide) ?_
  refine go_iadd dL_law_969 ?_
  refine go_slj (i := i) (j := 1) dL_law_970 rfl (by omega) h2 ?_
  refine go_callV (μ := m_X9_again) (n := 974) (T := TX9) (N := 10) [.int (sk_xi xs i 1)] dL_law_971 ok_X9_again ml_L_112 wx_X9_again wl_X9_again (show _ = some (0, 8) from rfl) rfl rfl (Nat.le_of_ble_eq_true rfl) ⟨Nat.le_of_ble_eq_true rfl, Nat.le_of_ble_eq_true rfl⟩ ⟨show u.1 + 0 + 0 ≤ 600000 by omega, show u.2 + 0 + 0 ≤ 7302250 by omega⟩ rfl ?_
  refine sk_Ct.mono q (fun r h' q2 => ?_)
  obtain ⟨e0, q2⟩ := q2
  subst e0
  show sk_Go Γ (sk_XL Γ n xs) (u.1 + 0 + 0, u.2 + 0 + 0) 974 [some (.float 0), some (.ref 0), some (.ref 20), some (.int (nI i))] [.int v, .int v] h'
  exact go_icmp_eq (tgt := 979) dL_law_974 (by decide) (fun _ => go_lwid (u' := (u.1 + 10, u.2 + 1157)) (show u.1 + 0 + 0 ≤ u.1 + 10 by omega) (show u.2 + 0 + 0 ≤ u.2 + 1157 by omega) q2) (fun c => absurd rfl c)
end LAWCALLS
