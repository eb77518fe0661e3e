/-! the law's loop -/
def R_law : String := "SheafVotesLaw"
def lw_P (b : Addr) (xs : List Int32) (args : Array Value) (s : State) : Prop := args = #[.ref b] ∧ s.IntsAt b xs ∧ xs.length ≤ 3072 ∧ (Jvm.Cond.and given_1 narrow_1).before args s = true
def lw_Q (_ : Array Value) (s : State) (o : Outcome) (t : State) : Prop := o = .returned (some (.int 1)) ∧ Framed s o t [] 600000 7302250
def lw_Z (below : List Frame) (a : Array Value) (s : State) : State → Prop := fun t => ∃ o, t.status = .running ∧ Ended t below o ∧ lw_Q a s o t
/-- the law's own end, with 1 on the stack, nothing written that was there before, its room as the claim has it -/
theorem lw_ret {p : Program} {l : Launch} {e : Env} {s : State} {m : MethodId} {below : List Frame} {meth : Method} {c : Code} {b : Nat} (hx : p.tables.exec = Jvm.exec) (hb : c.code = code) (hr : meth.sig.returnType = ret) (hlocks : meth.locks = false) {pc : Nat} {H : Heap} {ls : Array Slot} (hdg : decode code pc = .ok (.ireturn, 1)) : W p l e room_1 s m #[Value.ref b] below meth c H [] 600000 7302250 (lw_Z below #[Value.ref b] s) (F0 m pc ls [.int 1]) := by
  intro T hT X
  obtain ⟨fs, hret, hrun, hended, hW, hframe⟩ := X.leave (v := some (.int 1)) (hlocks := hlocks) (fun h => by rw [hr] at h; cases h)
  have hmeth' : T.vm.method? m = some meth := X.method'
  refine ⟨T.setFrames fs, ?_, .returned (some (.int 1)), hrun, hended, rfl, ⟨_, rfl⟩, hW, hframe⟩
  jvm_step X.here [X.here.top, hx, hb, hdg, hmeth', hr, ret, narrow_b1]
  (try refine ⟨rfl, ?_⟩); (try refine ⟨rfl, ?_⟩)
  first | (intro acts; rw [hret _ acts rfl rfl rfl]) | rw [hret _ _ rfl rfl rfl]
  exact Steps.refl _
def LX (b L : Nat) (xs : Nat → Int32) : GH → State → Array Value → Prop := fun g s args => args = #[.ref b] ∧ g.1 900 = b ∧ va_X b L xs s s.heap ∧ b < s.heap.size ∧ ∀ k, k < 62 → s.heap.size ≤ g.1 k
def zL (b L : Nat) (xs : Nat → Int32) : ZT := (room_1, 600000, 7302250, LX b L xs, fun _ s args below => lw_Z below args s)
theorem w_sld {b L : Nat} {xs : Nat → Int32} {pc n' n : Nat} {ls : List (Option Value)} {st : List Value} {mem : Mem} {i : Int32} (hd : decode mL.2.1 pc = .ok (.iaload, 1)) (hn : pc + 1 = n') (hi : i = nI n) (hlt : n < L) (hL : L ≤ 3072) (kk : Wm mL (zL b L xs) n' ls (.int (xs n) :: st) mem) : Wm mL (zL b L xs) pc ls (.int i :: .ref 900 :: st) mem := by
  subst hn
  subst hi
  intro g p l e s m args below meth c H locs la C hP hS hl
  obtain ⟨q1, q2, q3, q4, q5⟩ := C.2.2.2.2.2.2.2.2.2
  have hbA : ¬ Ag g b := by
    rintro ⟨k, hk, e9⟩
    have := q5 k hk
    omega
  have key := va_sld (i := nI n) (pc := pc) (ls := la) (rest := st.map (rv g)) C.1 C.2.1 q3 q4 hbA hS (vp_in_nI hlt (by omega)) hd (by
    rw [nI_clamp (by omega)]
    exact kk g p l e s m args below meth c H locs la C hP hS hl)
  rw [List.map_cons, List.map_cons, show rv g (.ref 900) = .ref b by show Value.ref (g.1 900) = _; rw [q2]]
  exact key
theorem w_slen {b L : Nat} {xs : Nat → Int32} {pc n' : Nat} {ls : List (Option Value)} {st : List Value} {mem : Mem} (hd : decode mL.2.1 pc = .ok (.arraylength, 1)) (hn : pc + 1 = n') (kk : Wm mL (zL b L xs) n' ls (.int (nI L) :: st) mem) : Wm mL (zL b L xs) pc ls (.ref 900 :: st) mem := by
  subst hn
  intro g p l e s m args below meth c H locs la C hP hS hl
  obtain ⟨q1, q2, q3, q4, q5⟩ := C.2.2.2.2.2.2.2.2.2
  have hbA : ¬ Ag g b := by
    rintro ⟨k, hk, e9⟩
    have := q5 k hk
    omega
  have key := va_slen (pc := pc) (ls := la) (rest := st.map (rv g)) C.1 C.2.1 q3 q4 hbA hS hd (kk g p l e s m args below meth c H locs la C hP hS hl)
  rw [List.map_cons, show rv g (.ref 900) = .ref b by show Value.ref (g.1 900) = _; rw [q2]]
  exact key
theorem w_end {b L : Nat} {xs : Nat → Int32} {pc : Nat} {ls : List (Option Value)} {mem : Mem} (hd : decode mL.2.1 pc = .ok (.ireturn, 1)) : Wm mL (zL b L xs) pc ls [.int 1] mem := by
  intro g p l e s m args below meth c H locs la C hP hS hl
  obtain ⟨q1, q2, q3, q4, q5⟩ := C.2.2.2.2.2.2.2.2.2
  subst q1
  refine va_forget (fun q hq => ?_) (lw_ret C.1 C.2.1 C.2.2.1 C.2.2.2.2.2.2.1 hd)
  obtain ⟨k, hk, e9⟩ := hS.2.2 q hq
  rw [e9]
  exact q5 k hk
theorem s_L {M : MT} {Z : ZT} {pc n' idx n b ci : Nat} {ls : List (Option Value)} {st rest as : List Value} {mem : Mem} {M' : MT} {P : Int64 → Mem → Prop} (hd : decode M.2.1 pc = .ok (.invokevirtual idx, 3)) (hn : pc + 3 = n') (hL : Cond.methodLink M.1.cls idx M'.1 ∈ tb) (hM : MOK M' n) (hV : VOK M') (hR : Rok Z M') (hC : Cn M' (.ref b :: as) mem (fun r m' => ∃ x, r = some (.long x) ∧ P x m')) (hlen : as.length = n) (hsk : st = as.reverse ++ .ref b :: rest) (hcat : (rest.map fun v => v.category).sum ≤ 8) (hk : kd b = ci) (hci : ci < 7) (hc : (clC ci).1 = M'.1.cls) (k : ∀ x m', P x m' → Wm M Z n' ls (.long x :: rest) m') : Wm M Z pc ls st mem :=
  w_callV hd hn hL hM hV hR hlen hcat hk hci hc hsk hC (fun r' m' h => by obtain ⟨x, rfl, h⟩ := h; exact k x m' h)
theorem lg_refl (x : Int64) : lg_cmp x x = 0 := by
  unfold lg_cmp
  simp
set_option maxHeartbeats 4000000 in
theorem lc_0 {b L : Nat} {xs : Nat → Int32} {i : Nat} {mem : Mem} (hL : L ≤ 3072) (hi : i + 6 ≤ L) (h : J mem) (K : ∀ m2, J m2 → Wm mL (zL b L xs) 1495 [some (.ref 900), some (.ref 0), some (.ref 50), some (.int (nI i))] [] m2) : Wm mL (zL b L xs) 240 [some (.ref 900), some (.ref 0), some (.ref 50), some (.int (nI i))] [] mem := by
  refine w_aload_n (i := 1) (n' := 241) dL_law_240 rfl rfl rfl ?_
  refine w_aload_n (i := 0) (n' := 242) dL_law_241 rfl rfl rfl ?_
  refine w_iload_n (i := 3) (n' := 243) dL_law_242 rfl rfl rfl ?_
  refine w_iconst (v := 1) (n' := 244) dL_law_243 rfl rfl ?_
  refine w_iadd (n' := 245) dL_law_244 rfl ?_
  refine w_sld (n := i + 1) (n' := 246) dL_law_245 rfl (nI_add i 1) (by omega) hL ?_
  refine w_aload_n (i := 0) (n' := 247) dL_law_246 rfl rfl rfl ?_
  refine w_iload_n (i := 3) (n' := 248) dL_law_247 rfl rfl rfl ?_
  refine w_iconst (v := 2) (n' := 249) dL_law_248 rfl rfl ?_
  refine w_iadd (n' := 250) dL_law_249 rfl ?_
  refine w_sld (n := i + 2) (n' := 251) dL_law_250 rfl (nI_add i 2) (by omega) hL ?_
  refine v_I (ci := 5) (n' := 254) dL_law_251 rfl lRL_13 okX5_weather voX5_weather ⟨⟨Nat.le_of_ble_eq_true rfl, Nat.le_of_ble_eq_true rfl⟩, Nat.le_of_ble_eq_true rfl, Nat.le_of_ble_eq_true rfl⟩ (jt_weather h (xs (i + 1)) (xs (i + 2))) rfl rfl (Nat.le_of_ble_eq_true rfl) rfl (Nat.le_of_ble_eq_true rfl) rfl (fun x1 m1 q1 => ?_)
  refine w_aload_n (i := 2) (n' := 255) dL_law_254 rfl rfl rfl ?_
  refine w_aload_n (i := 0) (n' := 256) dL_law_255 rfl rfl rfl ?_
  refine w_iload_n (i := 3) (n' := 257) dL_law_256 rfl rfl rfl ?_
  refine w_iconst (v := 1) (n' := 258) dL_law_257 rfl rfl ?_
  refine w_iadd (n' := 259) dL_law_258 rfl ?_
  refine w_sld (n := i + 1) (n' := 260) dL_law_259 rfl (nI_add i 1) (by omega) hL ?_
  refine w_aload_n (i := 0) (n' := 261) dL_law_260 rfl rfl rfl ?_
  refine w_iload_n (i := 3) (n' := 262) dL_law_261 rfl rfl rfl ?_
  refine w_iconst (v := 2) (n' := 263) dL_law_262 rfl rfl ?_
  refine w_iadd (n' := 264) dL_law_263 rfl ?_
  refine w_sld (n := i + 2) (n' := 265) dL_law_264 rfl (nI_add i 2) (by omega) hL ?_
  refine v_I (ci := 6) (n' := 268) dL_law_265 rfl lRL_17 okX6_weather voX6_weather ⟨⟨Nat.le_of_ble_eq_true rfl, Nat.le_of_ble_eq_true rfl⟩, Nat.le_of_ble_eq_true rfl, Nat.le_of_ble_eq_true rfl⟩ q1 rfl rfl (Nat.le_of_ble_eq_true rfl) rfl (Nat.le_of_ble_eq_true rfl) rfl (fun x2 m2 q2 => ?_)
  obtain ⟨rfl, hJ⟩ := q2
  exact w_icmp_eq (n' := 271) (tgt := 1495) dL_law_268 rfl rfl (fun _ => K _ hJ) (fun q => absurd rfl q)
