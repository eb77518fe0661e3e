/-! the law's loop -/
def R_law : String := "SheafVotesLaw"
def lw_P (b : Addr) (xs : List Int32) (args : Array Value) (s : State) : Prop := args = #[.ref b] ∧ s.IntsAt b xs ∧ xs.length ≤ 3072 ∧ (Jvm.Cond.and given_1 narrow_1).before args s = true
def lw_Q (_ : Array Value) (s : State) (o : Outcome) (t : State) : Prop := o = .returned (some (.int 1)) ∧ Framed s o t [] 600000 7302250
def lw_Z (below : List Frame) (a : Array Value) (s : State) : State → Prop := fun t => ∃ o, t.status = .running ∧ Ended t below o ∧ lw_Q a s o t
/-- the law's own end, with 1 on the stack, nothing written that was there before, its room as the claim has it -/
theorem lw_ret {p : Program} {l : Launch} {e : Env} {s : State} {m : MethodId} {below : List Frame} {meth : Method} {c : Code} {b : Nat} (hx : p.tables.exec = Jvm.exec) (hb : c.code = code) (hr : meth.sig.returnType = ret) (hlocks : meth.locks = false) {pc : Nat} {H : Heap} {ls : Array Slot} (hdg : decode code pc = .ok (.ireturn, 1)) : W p l e room_1 s m #[Value.ref b] below meth c H [] 600000 7302250 (lw_Z below #[Value.ref b] s) (F0 m pc ls [.int 1]) := by
  intro T hT X
  obtain ⟨fs, hret, hrun, hended, hW, hframe⟩ := X.leave (v := some (.int 1)) (hlocks := hlocks) (fun h => by rw [hr] at h; cases h)
  have hmeth' : T.vm.method? m = some meth := X.method'
  refine ⟨T.setFrames fs, ?_, .returned (some (.int 1)), hrun, hended, rfl, ⟨_, rfl⟩, hW, hframe⟩
  jvm_step X.here [X.here.top, hx, hb, hdg, hmeth', hr, ret, narrow_b1]
  (try refine ⟨rfl, ?_⟩); (try refine ⟨rfl, ?_⟩)
  first | (intro acts; rw [hret _ acts rfl rfl rfl]) | rw [hret _ _ rfl rfl rfl]
  exact Steps.refl _
def LX (b L : Nat) (xs : Nat → Int32) : GH → State → Array Value → Prop := fun g s args => args = #[.ref b] ∧ g.1 900 = b ∧ va_X b L xs s s.heap ∧ b < s.heap.size ∧ ∀ k, k < 62 → s.heap.size ≤ g.1 k
def zL (b L : Nat) (xs : Nat → Int32) : ZT := (room_1, 600000, 7302250, LX b L xs, fun _ s args below => lw_Z below args s)
theorem w_sld {b L : Nat} {xs : Nat → Int32} {pc n' n : Nat} {ls : List (Option Value)} {st : List Value} {mem : Mem} {i : Int32} (hd : decode mL.2.1 pc = .ok (.iaload, 1)) (hn : pc + 1 = n') (hi : i = nI n) (hlt : n < L) (hL : L ≤ 3072) (kk : Wm mL (zL b L xs) n' ls (.int (xs n) :: st) mem) : Wm mL (zL b L xs) pc ls (.int i :: .ref 900 :: st) mem := by
  subst hn
  subst hi
  intro g p l e s m args below meth c H locs la C hP hS hl
  obtain ⟨q1, q2, q3, q4, q5⟩ := C.2.2.2.2.2.2.2.2.2
  have hbA : ¬ Ag g b := by
    rintro ⟨k, hk, e9⟩
    have := q5 k hk
    omega
  have key := va_sld (i := nI n) (pc := pc) (ls := la) (rest := st.map (rv g)) C.1 C.2.1 q3 q4 hbA hS (vp_in_nI hlt (by omega)) hd (by
    rw [nI_clamp (by omega)]
    exact kk g p l e s m args below meth c H locs la C hP hS hl)
  rw [List.map_cons, List.map_cons, show rv g (.ref 900) = .ref b by show Value.ref (g.1 900) = _; rw [q2]]
  exact key
theorem w_slen {b L : Nat} {xs : Nat → Int32} {pc n' : Nat} {ls : List (Option Value)} {st : List Value} {mem : Mem} (hd : decode mL.2.1 pc = .ok (.arraylength, 1)) (hn : pc + 1 = n') (kk : Wm mL (zL b L xs) n' ls (.int (nI L) :: st) mem) : Wm mL (zL b L xs) pc ls (.ref 900 :: st) mem := by
  subst hn
  intro g p l e s m args below meth c H locs la C hP hS hl
  obtain ⟨q1, q2, q3, q4, q5⟩ := C.2.2.2.2.2.2.2.2.2
  have hbA : ¬ Ag g b := by
    rintro ⟨k, hk, e9⟩
    have := q5 k hk
    omega
  have key := va_slen (pc := pc) (ls := la) (rest := st.map (rv g)) C.1 C.2.1 q3 q4 hbA hS hd (kk g p l e s m args below meth c H locs la C hP hS hl)
  rw [List.map_cons, show rv g (.ref 900) = .ref b by show Value.ref (g.1 900) = _; rw [q2]]
  exact key
theorem w_end {b L : Nat} {xs : Nat → Int32} {pc : Nat} {ls : List (Option Value)} {mem : Mem} (hd : decode mL.2.1 pc = .ok (.ireturn, 1)) : Wm mL (zL b L xs) pc ls [.int 1] mem := by
  intro g p l e s m args below meth c H locs la C hP hS hl
  obtain ⟨q1, q2, q3, q4, q5⟩ := C.2.2.2.2.2.2.2.2.2
  subst q1
  refine va_forget (fun q hq => ?_) (lw_ret C.1 C.2.1 C.2.2.1 C.2.2.2.2.2.2.1 hd)
  obtain ⟨k, hk, e9⟩ := hS.2.2 q hq
  rw [e9]
  exact q5 k hk
theorem s_L {M : MT} {Z : ZT} {pc n' idx n b ci : Nat} {ls : List (Option Value)} {st rest as : List Value} {mem : Mem} {M' : MT} {P : Int64 → Mem → Prop} (hd : decode M.2.1 pc = .ok (.invokevirtual idx, 3)) (hn : pc + 3 = n') (hL : Cond.methodLink M.1.cls idx M'.1 ∈ tb) (hM : MOK M' n) (hV : VOK M') (hR : Rok Z M') (hC : Cn M' (.ref b :: as) mem (fun r m' => ∃ x, r = some (.long x) ∧ P x m')) (hlen : as.length = n) (hsk : st = as.reverse ++ .ref b :: rest) (hcat : (rest.map fun v => v.category).sum ≤ 8) (hk : kd b = ci) (hci : ci < 7) (hc : (clC ci).1 = M'.1.cls) (k : ∀ x m', P x m' → Wm M Z n' ls (.long x :: rest) m') : Wm M Z pc ls st mem :=
  w_callV hd hn hL hM hV hR hlen hcat hk hci hc hsk hC (fun r' m' h => by obtain ⟨x, rfl, h⟩ := h; exact k x m' h)
def zN : ZT := (room_1, 600000, 7302250, fun _ _ _ => True, fun _ _ _ _ _ => True)
theorem rkL {b L : Nat} {xs : Nat → Int32} {M' : MT} (h : Rok zN M') : Rok (zL b L xs) M' := h
theorem lg_refl (x : Int64) : lg_cmp x x = 0 := by
  unfold lg_cmp
  simp
set_option maxHeartbeats 4000000 in
theorem lc_0 {b L : Nat} {xs : Nat → Int32} {i : Nat} {mem : Mem} (hL : L ≤ 3072) (hi : i + 6 ≤ L) (h : J mem) (K : ∀ m2, J m2 → Wm mL (zL b L xs) 1495 [some (.ref 900), some (.ref 0), some (.ref 50), some (.int (nI i))] [] m2) : Wm mL (zL b L xs) 240 [some (.ref 900), some (.ref 0), some (.ref 50), some (.int (nI i))] [] mem := by
  refine w_aload_n (i := 1) (n' := 241) dL_law_240 rfl rfl rfl ?_
  refine w_aload_n (i := 0) (n' := 242) dL_law_241 rfl rfl rfl ?_
  refine w_iload_n (i := 3) (n' := 243) dL_law_242 rfl rfl rfl ?_
  refine w_iconst (v := 1) (n' := 244) dL_law_243 rfl rfl ?_
  refine w_iadd (n' := 245) dL_law_244 rfl ?_
  refine w_sld (n := i + 1) (n' := 246) dL_law_245 rfl (nI_add i 1) (by omega) hL ?_
  refine w_aload_n (i := 0) (n' := 247) dL_law_246 rfl rfl rfl ?_
  refine w_iload_n (i := 3) (n' := 248) dL_law_247 rfl rfl rfl ?_
  refine w_iconst (v := 2) (n' := 249) dL_law_248 rfl rfl ?_
  refine w_iadd (n' := 250) dL_law_249 rfl ?_
  refine w_sld (n := i + 2) (n' := 251) dL_law_250 rfl (nI_add i 2) (by omega) hL ?_
  refine v_I (ci := 5) (n' := 254) dL_law_251 rfl lRL_13 okX5_weather voX5_weather (rkL ⟨⟨Nat.le_of_ble_eq_true rfl, Nat.le_of_ble_eq_true rfl⟩, Nat.le_of_ble_eq_true rfl, Nat.le_of_ble_eq_true rfl⟩) (jt_weather h (xs (i + 1)) (xs (i + 2))) rfl rfl (Nat.le_of_ble_eq_true rfl) rfl (Nat.le_of_ble_eq_true rfl) rfl (fun x1 m1 q1 => ?_)
  refine w_aload_n (i := 2) (n' := 255) dL_law_254 rfl rfl rfl ?_
  refine w_aload_n (i := 0) (n' := 256) dL_law_255 rfl rfl rfl ?_
  refine w_iload_n (i := 3) (n' := 257) dL_law_256 rfl rfl rfl ?_
  refine w_iconst (v := 1) (n' := 258) dL_law_257 rfl rfl ?_
  refine w_iadd (n' := 259) dL_law_258 rfl ?_
  refine w_sld (n := i + 1) (n' := 260) dL_law_259 rfl (nI_add i 1) (by omega) hL ?_
  refine w_aload_n (i := 0) (n' := 261) dL_law_260 rfl rfl rfl ?_
  refine w_iload_n (i := 3) (n' := 262) dL_law_261 rfl rfl rfl ?_
  refine w_iconst (v := 2) (n' := 263) dL_law_262 rfl rfl ?_
  refine w_iadd (n' := 264) dL_law_263 rfl ?_
  refine w_sld (n := i + 2) (n' := 265) dL_law_264 rfl (nI_add i 2) (by omega) hL ?_
  refine v_I (ci := 6) (n' := 268) dL_law_265 rfl lRL_17 okX6_weather voX6_weather (rkL ⟨⟨Nat.le_of_ble_eq_true rfl, Nat.le_of_ble_eq_true rfl⟩, Nat.le_of_ble_eq_true rfl, Nat.le_of_ble_eq_true rfl⟩) q1 rfl rfl (Nat.le_of_ble_eq_true rfl) rfl (Nat.le_of_ble_eq_true rfl) rfl (fun x2 m2 q2 => ?_)
  obtain ⟨rfl, hJ⟩ := q2
  exact w_icmp_eq (n' := 271) (tgt := 1495) dL_law_268 rfl rfl (fun _ => K _ hJ) (fun q => absurd rfl q)
set_option maxHeartbeats 4000000 in
theorem lc_1 {b L : Nat} {xs : Nat → Int32} {i : Nat} {mem : Mem} (hL : L ≤ 3072) (hi : i + 6 ≤ L) (h : J mem) (K : ∀ m2, J m2 → Wm mL (zL b L xs) 1495 [some (.ref 900), some (.ref 0), some (.ref 50), some (.int (nI i))] [] m2) : Wm mL (zL b L xs) 273 [some (.ref 900), some (.ref 0), some (.ref 50), some (.int (nI i))] [] mem := by
  refine w_aload_n (i := 1) (n' := 274) dL_law_273 rfl rfl rfl ?_
  refine w_aload_n (i := 0) (n' := 275) dL_law_274 rfl rfl rfl ?_
  refine w_iload_n (i := 3) (n' := 276) dL_law_275 rfl rfl rfl ?_
  refine w_iconst (v := 1) (n' := 277) dL_law_276 rfl rfl ?_
  refine w_iadd (n' := 278) dL_law_277 rfl ?_
  refine w_sld (n := i + 1) (n' := 279) dL_law_278 rfl (nI_add i 1) (by omega) hL ?_
  refine w_aload_n (i := 0) (n' := 280) dL_law_279 rfl rfl rfl ?_
  refine w_iload_n (i := 3) (n' := 281) dL_law_280 rfl rfl rfl ?_
  refine w_iconst (v := 2) (n' := 282) dL_law_281 rfl rfl ?_
  refine w_iadd (n' := 283) dL_law_282 rfl ?_
  refine w_sld (n := i + 2) (n' := 284) dL_law_283 rfl (nI_add i 2) (by omega) hL ?_
  refine v_I (ci := 5) (n' := 287) dL_law_284 rfl lRL_18 okX5_farm voX5_farm (rkL ⟨⟨Nat.le_of_ble_eq_true rfl, Nat.le_of_ble_eq_true rfl⟩, Nat.le_of_ble_eq_true rfl, Nat.le_of_ble_eq_true rfl⟩) (jt_farm h (xs (i + 1)) (xs (i + 2))) rfl rfl (Nat.le_of_ble_eq_true rfl) rfl (Nat.le_of_ble_eq_true rfl) rfl (fun x1 m1 q1 => ?_)
  refine w_aload_n (i := 2) (n' := 288) dL_law_287 rfl rfl rfl ?_
  refine w_aload_n (i := 0) (n' := 289) dL_law_288 rfl rfl rfl ?_
  refine w_iload_n (i := 3) (n' := 290) dL_law_289 rfl rfl rfl ?_
  refine w_iconst (v := 1) (n' := 291) dL_law_290 rfl rfl ?_
  refine w_iadd (n' := 292) dL_law_291 rfl ?_
  refine w_sld (n := i + 1) (n' := 293) dL_law_292 rfl (nI_add i 1) (by omega) hL ?_
  refine w_aload_n (i := 0) (n' := 294) dL_law_293 rfl rfl rfl ?_
  refine w_iload_n (i := 3) (n' := 295) dL_law_294 rfl rfl rfl ?_
  refine w_iconst (v := 2) (n' := 296) dL_law_295 rfl rfl ?_
  refine w_iadd (n' := 297) dL_law_296 rfl ?_
  refine w_sld (n := i + 2) (n' := 298) dL_law_297 rfl (nI_add i 2) (by omega) hL ?_
  refine v_I (ci := 6) (n' := 301) dL_law_298 rfl lRL_21 okX6_farm voX6_farm (rkL ⟨⟨Nat.le_of_ble_eq_true rfl, Nat.le_of_ble_eq_true rfl⟩, Nat.le_of_ble_eq_true rfl, Nat.le_of_ble_eq_true rfl⟩) q1 rfl rfl (Nat.le_of_ble_eq_true rfl) rfl (Nat.le_of_ble_eq_true rfl) rfl (fun x2 m2 q2 => ?_)
  obtain ⟨rfl, hJ⟩ := q2
  exact w_icmp_eq (n' := 304) (tgt := 1495) dL_law_301 rfl rfl (fun _ => K _ hJ) (fun q => absurd rfl q)
set_option maxHeartbeats 4000000 in
theorem lc_2 {b L : Nat} {xs : Nat → Int32} {i : Nat} {mem : Mem} (hL : L ≤ 3072) (hi : i + 6 ≤ L) (h : J mem) (K : ∀ m2, J m2 → Wm mL (zL b L xs) 1495 [some (.ref 900), some (.ref 0), some (.ref 50), some (.int (nI i))] [] m2) : Wm mL (zL b L xs) 306 [some (.ref 900), some (.ref 0), some (.ref 50), some (.int (nI i))] [] mem := by
  refine w_aload_n (i := 1) (n' := 307) dL_law_306 rfl rfl rfl ?_
  refine w_aload_n (i := 0) (n' := 308) dL_law_307 rfl rfl rfl ?_
  refine w_iload_n (i := 3) (n' := 309) dL_law_308 rfl rfl rfl ?_
  refine w_iconst (v := 1) (n' := 310) dL_law_309 rfl rfl ?_
  refine w_iadd (n' := 311) dL_law_310 rfl ?_
  refine w_sld (n := i + 1) (n' := 312) dL_law_311 rfl (nI_add i 1) (by omega) hL ?_
  refine w_aload_n (i := 0) (n' := 313) dL_law_312 rfl rfl rfl ?_
  refine w_iload_n (i := 3) (n' := 314) dL_law_313 rfl rfl rfl ?_
  refine w_iconst (v := 2) (n' := 315) dL_law_314 rfl rfl ?_
  refine w_iadd (n' := 316) dL_law_315 rfl ?_
  refine w_sld (n := i + 2) (n' := 317) dL_law_316 rfl (nI_add i 2) (by omega) hL ?_
  refine v_I (ci := 5) (n' := 320) dL_law_317 rfl lRL_22 okX5_of voX5_of (rkL ⟨⟨Nat.le_of_ble_eq_true rfl, Nat.le_of_ble_eq_true rfl⟩, Nat.le_of_ble_eq_true rfl, Nat.le_of_ble_eq_true rfl⟩) (jt_of h (xs (i + 1)) (xs (i + 2))) rfl rfl (Nat.le_of_ble_eq_true rfl) rfl (Nat.le_of_ble_eq_true rfl) rfl (fun x1 m1 q1 => ?_)
  refine w_aload_n (i := 2) (n' := 321) dL_law_320 rfl rfl rfl ?_
  refine w_aload_n (i := 0) (n' := 322) dL_law_321 rfl rfl rfl ?_
  refine w_iload_n (i := 3) (n' := 323) dL_law_322 rfl rfl rfl ?_
  refine w_iconst (v := 1) (n' := 324) dL_law_323 rfl rfl ?_
  refine w_iadd (n' := 325) dL_law_324 rfl ?_
  refine w_sld (n := i + 1) (n' := 326) dL_law_325 rfl (nI_add i 1) (by omega) hL ?_
  refine w_aload_n (i := 0) (n' := 327) dL_law_326 rfl rfl rfl ?_
  refine w_iload_n (i := 3) (n' := 328) dL_law_327 rfl rfl rfl ?_
  refine w_iconst (v := 2) (n' := 329) dL_law_328 rfl rfl ?_
  refine w_iadd (n' := 330) dL_law_329 rfl ?_
  refine w_sld (n := i + 2) (n' := 331) dL_law_330 rfl (nI_add i 2) (by omega) hL ?_
  refine v_I (ci := 6) (n' := 334) dL_law_331 rfl lRL_25 okX6_of voX6_of (rkL ⟨⟨Nat.le_of_ble_eq_true rfl, Nat.le_of_ble_eq_true rfl⟩, Nat.le_of_ble_eq_true rfl, Nat.le_of_ble_eq_true rfl⟩) q1 rfl rfl (Nat.le_of_ble_eq_true rfl) rfl (Nat.le_of_ble_eq_true rfl) rfl (fun x2 m2 q2 => ?_)
  obtain ⟨rfl, hJ⟩ := q2
  exact w_icmp_eq (n' := 337) (tgt := 1495) dL_law_334 rfl rfl (fun _ => K _ hJ) (fun q => absurd rfl q)
set_option maxHeartbeats 4000000 in
theorem lc_3 {b L : Nat} {xs : Nat → Int32} {i : Nat} {mem : Mem} (hL : L ≤ 3072) (hi : i + 6 ≤ L) (h : J mem) (K : ∀ m2, J m2 → Wm mL (zL b L xs) 1495 [some (.ref 900), some (.ref 0), some (.ref 50), some (.int (nI i))] [] m2) : Wm mL (zL b L xs) 339 [some (.ref 900), some (.ref 0), some (.ref 50), some (.int (nI i))] [] mem := by
  refine w_aload_n (i := 1) (n' := 340) dL_law_339 rfl rfl rfl ?_
  refine w_aload_n (i := 0) (n' := 341) dL_law_340 rfl rfl rfl ?_
  refine w_iload_n (i := 3) (n' := 342) dL_law_341 rfl rfl rfl ?_
  refine w_iconst (v := 1) (n' := 343) dL_law_342 rfl rfl ?_
  refine w_iadd (n' := 344) dL_law_343 rfl ?_
  refine w_sld (n := i + 1) (n' := 345) dL_law_344 rfl (nI_add i 1) (by omega) hL ?_
  refine w_aload_n (i := 0) (n' := 346) dL_law_345 rfl rfl rfl ?_
  refine w_iload_n (i := 3) (n' := 347) dL_law_346 rfl rfl rfl ?_
  refine w_iconst (v := 2) (n' := 348) dL_law_347 rfl rfl ?_
  refine w_iadd (n' := 349) dL_law_348 rfl ?_
  refine w_sld (n := i + 2) (n' := 350) dL_law_349 rfl (nI_add i 2) (by omega) hL ?_
  refine w_aload_n (i := 0) (n' := 351) dL_law_350 rfl rfl rfl ?_
  refine w_iload_n (i := 3) (n' := 352) dL_law_351 rfl rfl rfl ?_
  refine w_iconst (v := 3) (n' := 353) dL_law_352 rfl rfl ?_
  refine w_iadd (n' := 354) dL_law_353 rfl ?_
  refine w_sld (n := i + 3) (n' := 355) dL_law_354 rfl (nI_add i 3) (by omega) hL ?_
  refine v_I (ci := 5) (n' := 358) dL_law_355 rfl lRL_26 okX5_change voX5_change (rkL ⟨⟨Nat.le_of_ble_eq_true rfl, Nat.le_of_ble_eq_true rfl⟩, Nat.le_of_ble_eq_true rfl, Nat.le_of_ble_eq_true rfl⟩) (jt_change h (xs (i + 1)) (xs (i + 2)) (xs (i + 3))) rfl rfl (Nat.le_of_ble_eq_true rfl) rfl (Nat.le_of_ble_eq_true rfl) rfl (fun x1 m1 q1 => ?_)
  refine w_aload_n (i := 2) (n' := 359) dL_law_358 rfl rfl rfl ?_
  refine w_aload_n (i := 0) (n' := 360) dL_law_359 rfl rfl rfl ?_
  refine w_iload_n (i := 3) (n' := 361) dL_law_360 rfl rfl rfl ?_
  refine w_iconst (v := 1) (n' := 362) dL_law_361 rfl rfl ?_
  refine w_iadd (n' := 363) dL_law_362 rfl ?_
  refine w_sld (n := i + 1) (n' := 364) dL_law_363 rfl (nI_add i 1) (by omega) hL ?_
  refine w_aload_n (i := 0) (n' := 365) dL_law_364 rfl rfl rfl ?_
  refine w_iload_n (i := 3) (n' := 366) dL_law_365 rfl rfl rfl ?_
  refine w_iconst (v := 2) (n' := 367) dL_law_366 rfl rfl ?_
  refine w_iadd (n' := 368) dL_law_367 rfl ?_
  refine w_sld (n := i + 2) (n' := 369) dL_law_368 rfl (nI_add i 2) (by omega) hL ?_
  refine w_aload_n (i := 0) (n' := 370) dL_law_369 rfl rfl rfl ?_
  refine w_iload_n (i := 3) (n' := 371) dL_law_370 rfl rfl rfl ?_
  refine w_iconst (v := 3) (n' := 372) dL_law_371 rfl rfl ?_
  refine w_iadd (n' := 373) dL_law_372 rfl ?_
  refine w_sld (n := i + 3) (n' := 374) dL_law_373 rfl (nI_add i 3) (by omega) hL ?_
  refine v_I (ci := 6) (n' := 377) dL_law_374 rfl lRL_30 okX6_change voX6_change (rkL ⟨⟨Nat.le_of_ble_eq_true rfl, Nat.le_of_ble_eq_true rfl⟩, Nat.le_of_ble_eq_true rfl, Nat.le_of_ble_eq_true rfl⟩) q1 rfl rfl (Nat.le_of_ble_eq_true rfl) rfl (Nat.le_of_ble_eq_true rfl) rfl (fun x2 m2 q2 => ?_)
  obtain ⟨rfl, hJ⟩ := q2
  exact w_icmp_eq (n' := 380) (tgt := 1495) dL_law_377 rfl rfl (fun _ => K _ hJ) (fun q => absurd rfl q)
set_option maxHeartbeats 4000000 in
theorem lc_4 {b L : Nat} {xs : Nat → Int32} {i : Nat} {mem : Mem} (hL : L ≤ 3072) (hi : i + 6 ≤ L) (h : J mem) (K : ∀ m2, J m2 → Wm mL (zL b L xs) 1495 [some (.ref 900), some (.ref 0), some (.ref 50), some (.int (nI i))] [] m2) : Wm mL (zL b L xs) 382 [some (.ref 900), some (.ref 0), some (.ref 50), some (.int (nI i))] [] mem := by
  refine w_aload_n (i := 1) (n' := 383) dL_law_382 rfl rfl rfl ?_
  refine w_aload_n (i := 0) (n' := 384) dL_law_383 rfl rfl rfl ?_
  refine w_iload_n (i := 3) (n' := 385) dL_law_384 rfl rfl rfl ?_
  refine w_iconst (v := 1) (n' := 386) dL_law_385 rfl rfl ?_
  refine w_iadd (n' := 387) dL_law_386 rfl ?_
  refine w_sld (n := i + 1) (n' := 388) dL_law_387 rfl (nI_add i 1) (by omega) hL ?_
  refine w_aload_n (i := 0) (n' := 389) dL_law_388 rfl rfl rfl ?_
  refine w_iload_n (i := 3) (n' := 390) dL_law_389 rfl rfl rfl ?_
  refine w_iconst (v := 2) (n' := 391) dL_law_390 rfl rfl ?_
  refine w_iadd (n' := 392) dL_law_391 rfl ?_
  refine w_sld (n := i + 2) (n' := 393) dL_law_392 rfl (nI_add i 2) (by omega) hL ?_
  refine v_I (ci := 5) (n' := 396) dL_law_393 rfl lRL_31 okX5_left voX5_left (rkL ⟨⟨Nat.le_of_ble_eq_true rfl, Nat.le_of_ble_eq_true rfl⟩, Nat.le_of_ble_eq_true rfl, Nat.le_of_ble_eq_true rfl⟩) (jt_left h (xs (i + 1)) (xs (i + 2))) rfl rfl (Nat.le_of_ble_eq_true rfl) rfl (Nat.le_of_ble_eq_true rfl) rfl (fun x1 m1 q1 => ?_)
  refine w_aload_n (i := 2) (n' := 397) dL_law_396 rfl rfl rfl ?_
  refine w_aload_n (i := 0) (n' := 398) dL_law_397 rfl rfl rfl ?_
  refine w_iload_n (i := 3) (n' := 399) dL_law_398 rfl rfl rfl ?_
  refine w_iconst (v := 1) (n' := 400) dL_law_399 rfl rfl ?_
  refine w_iadd (n' := 401) dL_law_400 rfl ?_
  refine w_sld (n := i + 1) (n' := 402) dL_law_401 rfl (nI_add i 1) (by omega) hL ?_
  refine w_aload_n (i := 0) (n' := 403) dL_law_402 rfl rfl rfl ?_
  refine w_iload_n (i := 3) (n' := 404) dL_law_403 rfl rfl rfl ?_
  refine w_iconst (v := 2) (n' := 405) dL_law_404 rfl rfl ?_
  refine w_iadd (n' := 406) dL_law_405 rfl ?_
  refine w_sld (n := i + 2) (n' := 407) dL_law_406 rfl (nI_add i 2) (by omega) hL ?_
  refine v_I (ci := 6) (n' := 410) dL_law_407 rfl lRL_34 okX6_left voX6_left (rkL ⟨⟨Nat.le_of_ble_eq_true rfl, Nat.le_of_ble_eq_true rfl⟩, Nat.le_of_ble_eq_true rfl, Nat.le_of_ble_eq_true rfl⟩) q1 rfl rfl (Nat.le_of_ble_eq_true rfl) rfl (Nat.le_of_ble_eq_true rfl) rfl (fun x2 m2 q2 => ?_)
  obtain ⟨rfl, hJ⟩ := q2
  exact w_icmp_eq (n' := 413) (tgt := 1495) dL_law_410 rfl rfl (fun _ => K _ hJ) (fun q => absurd rfl q)
set_option maxHeartbeats 4000000 in
theorem lc_5 {b L : Nat} {xs : Nat → Int32} {i : Nat} {mem : Mem} (hL : L ≤ 3072) (hi : i + 6 ≤ L) (h : J mem) (K : ∀ m2, J m2 → Wm mL (zL b L xs) 1495 [some (.ref 900), some (.ref 0), some (.ref 50), some (.int (nI i))] [] m2) : Wm mL (zL b L xs) 415 [some (.ref 900), some (.ref 0), some (.ref 50), some (.int (nI i))] [] mem := by
  refine w_aload_n (i := 1) (n' := 416) dL_law_415 rfl rfl rfl ?_
  refine v_I (ci := 5) (n' := 419) dL_law_416 rfl lRL_35 okX5_last voX5_last (rkL ⟨⟨Nat.le_of_ble_eq_true rfl, Nat.le_of_ble_eq_true rfl⟩, Nat.le_of_ble_eq_true rfl, Nat.le_of_ble_eq_true rfl⟩) (jt_last h ) rfl rfl (Nat.le_of_ble_eq_true rfl) rfl (Nat.le_of_ble_eq_true rfl) rfl (fun x1 m1 q1 => ?_)
  refine w_aload_n (i := 2) (n' := 420) dL_law_419 rfl rfl rfl ?_
  refine v_I (ci := 6) (n' := 423) dL_law_420 rfl lRL_39 okX6_last voX6_last (rkL ⟨⟨Nat.le_of_ble_eq_true rfl, Nat.le_of_ble_eq_true rfl⟩, Nat.le_of_ble_eq_true rfl, Nat.le_of_ble_eq_true rfl⟩) q1 rfl rfl (Nat.le_of_ble_eq_true rfl) rfl (Nat.le_of_ble_eq_true rfl) rfl (fun x2 m2 q2 => ?_)
  obtain ⟨rfl, hJ⟩ := q2
  exact w_icmp_eq (n' := 426) (tgt := 1495) dL_law_423 rfl rfl (fun _ => K _ hJ) (fun q => absurd rfl q)
set_option maxHeartbeats 4000000 in
theorem lc_6 {b L : Nat} {xs : Nat → Int32} {i : Nat} {mem : Mem} (hL : L ≤ 3072) (hi : i + 6 ≤ L) (h : J mem) (K : ∀ m2, J m2 → Wm mL (zL b L xs) 1495 [some (.ref 900), some (.ref 0), some (.ref 50), some (.int (nI i))] [] m2) : Wm mL (zL b L xs) 428 [some (.ref 900), some (.ref 0), some (.ref 50), some (.int (nI i))] [] mem := by
  refine w_aload_n (i := 1) (n' := 429) dL_law_428 rfl rfl rfl ?_
  refine v_I (ci := 5) (n' := 432) dL_law_429 rfl lRL_40 okX5_first voX5_first (rkL ⟨⟨Nat.le_of_ble_eq_true rfl, Nat.le_of_ble_eq_true rfl⟩, Nat.le_of_ble_eq_true rfl, Nat.le_of_ble_eq_true rfl⟩) (jt_first h ) rfl rfl (Nat.le_of_ble_eq_true rfl) rfl (Nat.le_of_ble_eq_true rfl) rfl (fun x1 m1 q1 => ?_)
  refine w_aload_n (i := 2) (n' := 433) dL_law_432 rfl rfl rfl ?_
  refine v_I (ci := 6) (n' := 436) dL_law_433 rfl lRL_43 okX6_first voX6_first (rkL ⟨⟨Nat.le_of_ble_eq_true rfl, Nat.le_of_ble_eq_true rfl⟩, Nat.le_of_ble_eq_true rfl, Nat.le_of_ble_eq_true rfl⟩) q1 rfl rfl (Nat.le_of_ble_eq_true rfl) rfl (Nat.le_of_ble_eq_true rfl) rfl (fun x2 m2 q2 => ?_)
  obtain ⟨rfl, hJ⟩ := q2
  exact w_icmp_eq (n' := 439) (tgt := 1495) dL_law_436 rfl rfl (fun _ => K _ hJ) (fun q => absurd rfl q)
set_option maxHeartbeats 4000000 in
theorem lc_7 {b L : Nat} {xs : Nat → Int32} {i : Nat} {mem : Mem} (hL : L ≤ 3072) (hi : i + 6 ≤ L) (h : J mem) (K : ∀ m2, J m2 → Wm mL (zL b L xs) 1495 [some (.ref 900), some (.ref 0), some (.ref 50), some (.int (nI i))] [] m2) : Wm mL (zL b L xs) 441 [some (.ref 900), some (.ref 0), some (.ref 50), some (.int (nI i))] [] mem := by
  refine w_aload_n (i := 1) (n' := 442) dL_law_441 rfl rfl rfl ?_
  refine v_I (ci := 5) (n' := 445) dL_law_442 rfl lRL_44 okX5_next voX5_next (rkL ⟨⟨Nat.le_of_ble_eq_true rfl, Nat.le_of_ble_eq_true rfl⟩, Nat.le_of_ble_eq_true rfl, Nat.le_of_ble_eq_true rfl⟩) (jt_next h ) rfl rfl (Nat.le_of_ble_eq_true rfl) rfl (Nat.le_of_ble_eq_true rfl) rfl (fun x1 m1 q1 => ?_)
  refine w_aload_n (i := 2) (n' := 446) dL_law_445 rfl rfl rfl ?_
  refine v_I (ci := 6) (n' := 449) dL_law_446 rfl lRL_47 okX6_next voX6_next (rkL ⟨⟨Nat.le_of_ble_eq_true rfl, Nat.le_of_ble_eq_true rfl⟩, Nat.le_of_ble_eq_true rfl, Nat.le_of_ble_eq_true rfl⟩) q1 rfl rfl (Nat.le_of_ble_eq_true rfl) rfl (Nat.le_of_ble_eq_true rfl) rfl (fun x2 m2 q2 => ?_)
  obtain ⟨rfl, hJ⟩ := q2
  exact w_icmp_eq (n' := 452) (tgt := 1495) dL_law_449 rfl rfl (fun _ => K _ hJ) (fun q => absurd rfl q)
set_option maxHeartbeats 4000000 in
theorem lc_8 {b L : Nat} {xs : Nat → Int32} {i : Nat} {mem : Mem} (hL : L ≤ 3072) (hi : i + 6 ≤ L) (h : J mem) (K : ∀ m2, J m2 → Wm mL (zL b L xs) 1495 [some (.ref 900), some (.ref 0), some (.ref 50), some (.int (nI i))] [] m2) : Wm mL (zL b L xs) 454 [some (.ref 900), some (.ref 0), some (.ref 50), some (.int (nI i))] [] mem := by
  refine w_aload_n (i := 1) (n' := 455) dL_law_454 rfl rfl rfl ?_
  refine v_I (ci := 5) (n' := 458) dL_law_455 rfl lRL_48 okX5_lean voX5_lean (rkL ⟨⟨Nat.le_of_ble_eq_true rfl, Nat.le_of_ble_eq_true rfl⟩, Nat.le_of_ble_eq_true rfl, Nat.le_of_ble_eq_true rfl⟩) (jt_lean h ) rfl rfl (Nat.le_of_ble_eq_true rfl) rfl (Nat.le_of_ble_eq_true rfl) rfl (fun x1 m1 q1 => ?_)
  refine w_aload_n (i := 2) (n' := 459) dL_law_458 rfl rfl rfl ?_
  refine v_I (ci := 6) (n' := 462) dL_law_459 rfl lRL_51 okX6_lean voX6_lean (rkL ⟨⟨Nat.le_of_ble_eq_true rfl, Nat.le_of_ble_eq_true rfl⟩, Nat.le_of_ble_eq_true rfl, Nat.le_of_ble_eq_true rfl⟩) q1 rfl rfl (Nat.le_of_ble_eq_true rfl) rfl (Nat.le_of_ble_eq_true rfl) rfl (fun x2 m2 q2 => ?_)
  obtain ⟨rfl, hJ⟩ := q2
  exact w_icmp_eq (n' := 465) (tgt := 1495) dL_law_462 rfl rfl (fun _ => K _ hJ) (fun q => absurd rfl q)
set_option maxHeartbeats 4000000 in
theorem lc_9 {b L : Nat} {xs : Nat → Int32} {i : Nat} {mem : Mem} (hL : L ≤ 3072) (hi : i + 6 ≤ L) (h : J mem) (K : ∀ m2, J m2 → Wm mL (zL b L xs) 1495 [some (.ref 900), some (.ref 0), some (.ref 50), some (.int (nI i))] [] m2) : Wm mL (zL b L xs) 467 [some (.ref 900), some (.ref 0), some (.ref 50), some (.int (nI i))] [] mem := by
  refine w_aload_n (i := 1) (n' := 468) dL_law_467 rfl rfl rfl ?_
  refine w_aload_n (i := 0) (n' := 469) dL_law_468 rfl rfl rfl ?_
  refine w_iload_n (i := 3) (n' := 470) dL_law_469 rfl rfl rfl ?_
  refine w_iconst (v := 1) (n' := 471) dL_law_470 rfl rfl ?_
  refine w_iadd (n' := 472) dL_law_471 rfl ?_
  refine w_sld (n := i + 1) (n' := 473) dL_law_472 rfl (nI_add i 1) (by omega) hL ?_
  refine v_I (ci := 5) (n' := 476) dL_law_473 rfl lRL_52 okX5_answer voX5_answer (rkL ⟨⟨Nat.le_of_ble_eq_true rfl, Nat.le_of_ble_eq_true rfl⟩, Nat.le_of_ble_eq_true rfl, Nat.le_of_ble_eq_true rfl⟩) (jt_answer h (xs (i + 1))) rfl rfl (Nat.le_of_ble_eq_true rfl) rfl (Nat.le_of_ble_eq_true rfl) rfl (fun x1 m1 q1 => ?_)
  refine w_aload_n (i := 2) (n' := 477) dL_law_476 rfl rfl rfl ?_
  refine w_aload_n (i := 0) (n' := 478) dL_law_477 rfl rfl rfl ?_
  refine w_iload_n (i := 3) (n' := 479) dL_law_478 rfl rfl rfl ?_
  refine w_iconst (v := 1) (n' := 480) dL_law_479 rfl rfl ?_
  refine w_iadd (n' := 481) dL_law_480 rfl ?_
  refine w_sld (n := i + 1) (n' := 482) dL_law_481 rfl (nI_add i 1) (by omega) hL ?_
  refine v_I (ci := 6) (n' := 485) dL_law_482 rfl lRL_56 okX6_answer voX6_answer (rkL ⟨⟨Nat.le_of_ble_eq_true rfl, Nat.le_of_ble_eq_true rfl⟩, Nat.le_of_ble_eq_true rfl, Nat.le_of_ble_eq_true rfl⟩) q1 rfl rfl (Nat.le_of_ble_eq_true rfl) rfl (Nat.le_of_ble_eq_true rfl) rfl (fun x2 m2 q2 => ?_)
  obtain ⟨rfl, hJ⟩ := q2
  exact w_icmp_eq (n' := 488) (tgt := 1495) dL_law_485 rfl rfl (fun _ => K _ hJ) (fun q => absurd rfl q)
set_option maxHeartbeats 4000000 in
theorem lc_10 {b L : Nat} {xs : Nat → Int32} {i : Nat} {mem : Mem} (hL : L ≤ 3072) (hi : i + 6 ≤ L) (h : J mem) (K : ∀ m2, J m2 → Wm mL (zL b L xs) 1495 [some (.ref 900), some (.ref 0), some (.ref 50), some (.int (nI i))] [] m2) : Wm mL (zL b L xs) 490 [some (.ref 900), some (.ref 0), some (.ref 50), some (.int (nI i))] [] mem := by
  refine w_aload_n (i := 1) (n' := 491) dL_law_490 rfl rfl rfl ?_
  refine w_aload_n (i := 0) (n' := 492) dL_law_491 rfl rfl rfl ?_
  refine w_iload_n (i := 3) (n' := 493) dL_law_492 rfl rfl rfl ?_
  refine w_iconst (v := 1) (n' := 494) dL_law_493 rfl rfl ?_
  refine w_iadd (n' := 495) dL_law_494 rfl ?_
  refine w_sld (n := i + 1) (n' := 496) dL_law_495 rfl (nI_add i 1) (by omega) hL ?_
  refine v_I (ci := 5) (n' := 499) dL_law_496 rfl lRL_57 okX5_go voX5_go (rkL ⟨⟨Nat.le_of_ble_eq_true rfl, Nat.le_of_ble_eq_true rfl⟩, Nat.le_of_ble_eq_true rfl, Nat.le_of_ble_eq_true rfl⟩) (jt_go h (xs (i + 1))) rfl rfl (Nat.le_of_ble_eq_true rfl) rfl (Nat.le_of_ble_eq_true rfl) rfl (fun x1 m1 q1 => ?_)
  refine w_aload_n (i := 2) (n' := 500) dL_law_499 rfl rfl rfl ?_
  refine w_aload_n (i := 0) (n' := 501) dL_law_500 rfl rfl rfl ?_
  refine w_iload_n (i := 3) (n' := 502) dL_law_501 rfl rfl rfl ?_
  refine w_iconst (v := 1) (n' := 503) dL_law_502 rfl rfl ?_
  refine w_iadd (n' := 504) dL_law_503 rfl ?_
  refine w_sld (n := i + 1) (n' := 505) dL_law_504 rfl (nI_add i 1) (by omega) hL ?_
  refine v_I (ci := 6) (n' := 508) dL_law_505 rfl lRL_60 okX6_go voX6_go (rkL ⟨⟨Nat.le_of_ble_eq_true rfl, Nat.le_of_ble_eq_true rfl⟩, Nat.le_of_ble_eq_true rfl, Nat.le_of_ble_eq_true rfl⟩) q1 rfl rfl (Nat.le_of_ble_eq_true rfl) rfl (Nat.le_of_ble_eq_true rfl) rfl (fun x2 m2 q2 => ?_)
  obtain ⟨rfl, hJ⟩ := q2
  exact w_icmp_eq (n' := 511) (tgt := 1495) dL_law_508 rfl rfl (fun _ => K _ hJ) (fun q => absurd rfl q)
set_option maxHeartbeats 4000000 in
theorem lc_11 {b L : Nat} {xs : Nat → Int32} {i : Nat} {mem : Mem} (hL : L ≤ 3072) (hi : i + 6 ≤ L) (h : J mem) (K : ∀ m2, J m2 → Wm mL (zL b L xs) 1495 [some (.ref 900), some (.ref 0), some (.ref 50), some (.int (nI i))] [] m2) : Wm mL (zL b L xs) 513 [some (.ref 900), some (.ref 0), some (.ref 50), some (.int (nI i))] [] mem := by
  refine w_aload_n (i := 1) (n' := 514) dL_law_513 rfl rfl rfl ?_
  refine w_aload_n (i := 0) (n' := 515) dL_law_514 rfl rfl rfl ?_
  refine w_iload_n (i := 3) (n' := 516) dL_law_515 rfl rfl rfl ?_
  refine w_iconst (v := 1) (n' := 517) dL_law_516 rfl rfl ?_
  refine w_iadd (n' := 518) dL_law_517 rfl ?_
  refine w_sld (n := i + 1) (n' := 519) dL_law_518 rfl (nI_add i 1) (by omega) hL ?_
  refine v_I (ci := 5) (n' := 522) dL_law_519 rfl lRL_61 okX5_now voX5_now (rkL ⟨⟨Nat.le_of_ble_eq_true rfl, Nat.le_of_ble_eq_true rfl⟩, Nat.le_of_ble_eq_true rfl, Nat.le_of_ble_eq_true rfl⟩) (jt_now h (xs (i + 1))) rfl rfl (Nat.le_of_ble_eq_true rfl) rfl (Nat.le_of_ble_eq_true rfl) rfl (fun x1 m1 q1 => ?_)
  refine w_aload_n (i := 2) (n' := 523) dL_law_522 rfl rfl rfl ?_
  refine w_aload_n (i := 0) (n' := 524) dL_law_523 rfl rfl rfl ?_
  refine w_iload_n (i := 3) (n' := 525) dL_law_524 rfl rfl rfl ?_
  refine w_iconst (v := 1) (n' := 526) dL_law_525 rfl rfl ?_
  refine w_iadd (n' := 527) dL_law_526 rfl ?_
  refine w_sld (n := i + 1) (n' := 528) dL_law_527 rfl (nI_add i 1) (by omega) hL ?_
  refine v_I (ci := 6) (n' := 531) dL_law_528 rfl lRL_64 okX6_now voX6_now (rkL ⟨⟨Nat.le_of_ble_eq_true rfl, Nat.le_of_ble_eq_true rfl⟩, Nat.le_of_ble_eq_true rfl, Nat.le_of_ble_eq_true rfl⟩) q1 rfl rfl (Nat.le_of_ble_eq_true rfl) rfl (Nat.le_of_ble_eq_true rfl) rfl (fun x2 m2 q2 => ?_)
  obtain ⟨rfl, hJ⟩ := q2
  exact w_icmp_eq (n' := 534) (tgt := 1495) dL_law_531 rfl rfl (fun _ => K _ hJ) (fun q => absurd rfl q)
set_option maxHeartbeats 4000000 in
theorem lc_12 {b L : Nat} {xs : Nat → Int32} {i : Nat} {mem : Mem} (hL : L ≤ 3072) (hi : i + 6 ≤ L) (h : J mem) (K : ∀ m2, J m2 → Wm mL (zL b L xs) 1495 [some (.ref 900), some (.ref 0), some (.ref 50), some (.int (nI i))] [] m2) : Wm mL (zL b L xs) 536 [some (.ref 900), some (.ref 0), some (.ref 50), some (.int (nI i))] [] mem := by
  refine w_aload_n (i := 1) (n' := 537) dL_law_536 rfl rfl rfl ?_
  refine w_aload_n (i := 0) (n' := 538) dL_law_537 rfl rfl rfl ?_
  refine w_iload_n (i := 3) (n' := 539) dL_law_538 rfl rfl rfl ?_
  refine w_iconst (v := 1) (n' := 540) dL_law_539 rfl rfl ?_
  refine w_iadd (n' := 541) dL_law_540 rfl ?_
  refine w_sld (n := i + 1) (n' := 542) dL_law_541 rfl (nI_add i 1) (by omega) hL ?_
  refine v_I (ci := 5) (n' := 545) dL_law_542 rfl lRL_65 okX5_holder voX5_holder (rkL ⟨⟨Nat.le_of_ble_eq_true rfl, Nat.le_of_ble_eq_true rfl⟩, Nat.le_of_ble_eq_true rfl, Nat.le_of_ble_eq_true rfl⟩) (jt_holder h (xs (i + 1))) rfl rfl (Nat.le_of_ble_eq_true rfl) rfl (Nat.le_of_ble_eq_true rfl) rfl (fun x1 m1 q1 => ?_)
  refine w_aload_n (i := 2) (n' := 546) dL_law_545 rfl rfl rfl ?_
  refine w_aload_n (i := 0) (n' := 547) dL_law_546 rfl rfl rfl ?_
  refine w_iload_n (i := 3) (n' := 548) dL_law_547 rfl rfl rfl ?_
  refine w_iconst (v := 1) (n' := 549) dL_law_548 rfl rfl ?_
  refine w_iadd (n' := 550) dL_law_549 rfl ?_
  refine w_sld (n := i + 1) (n' := 551) dL_law_550 rfl (nI_add i 1) (by omega) hL ?_
  refine v_I (ci := 6) (n' := 554) dL_law_551 rfl lRL_68 okX6_holder voX6_holder (rkL ⟨⟨Nat.le_of_ble_eq_true rfl, Nat.le_of_ble_eq_true rfl⟩, Nat.le_of_ble_eq_true rfl, Nat.le_of_ble_eq_true rfl⟩) q1 rfl rfl (Nat.le_of_ble_eq_true rfl) rfl (Nat.le_of_ble_eq_true rfl) rfl (fun x2 m2 q2 => ?_)
  obtain ⟨rfl, hJ⟩ := q2
  exact w_icmp_eq (n' := 557) (tgt := 1495) dL_law_554 rfl rfl (fun _ => K _ hJ) (fun q => absurd rfl q)
set_option maxHeartbeats 4000000 in
theorem lc_13 {b L : Nat} {xs : Nat → Int32} {i : Nat} {mem : Mem} (hL : L ≤ 3072) (hi : i + 6 ≤ L) (h : J mem) (K : ∀ m2, J m2 → Wm mL (zL b L xs) 1495 [some (.ref 900), some (.ref 0), some (.ref 50), some (.int (nI i))] [] m2) : Wm mL (zL b L xs) 559 [some (.ref 900), some (.ref 0), some (.ref 50), some (.int (nI i))] [] mem := by
  refine w_aload_n (i := 1) (n' := 560) dL_law_559 rfl rfl rfl ?_
  refine w_aload_n (i := 0) (n' := 561) dL_law_560 rfl rfl rfl ?_
  refine w_iload_n (i := 3) (n' := 562) dL_law_561 rfl rfl rfl ?_
  refine w_iconst (v := 1) (n' := 563) dL_law_562 rfl rfl ?_
  refine w_iadd (n' := 564) dL_law_563 rfl ?_
  refine w_sld (n := i + 1) (n' := 565) dL_law_564 rfl (nI_add i 1) (by omega) hL ?_
  refine w_aload_n (i := 0) (n' := 566) dL_law_565 rfl rfl rfl ?_
  refine w_iload_n (i := 3) (n' := 567) dL_law_566 rfl rfl rfl ?_
  refine w_iconst (v := 2) (n' := 568) dL_law_567 rfl rfl ?_
  refine w_iadd (n' := 569) dL_law_568 rfl ?_
  refine w_sld (n := i + 2) (n' := 570) dL_law_569 rfl (nI_add i 2) (by omega) hL ?_
  refine w_aload_n (i := 0) (n' := 571) dL_law_570 rfl rfl rfl ?_
  refine w_iload_n (i := 3) (n' := 572) dL_law_571 rfl rfl rfl ?_
  refine w_iconst (v := 3) (n' := 573) dL_law_572 rfl rfl ?_
  refine w_iadd (n' := 574) dL_law_573 rfl ?_
  refine w_sld (n := i + 3) (n' := 575) dL_law_574 rfl (nI_add i 3) (by omega) hL ?_
  refine v_I (ci := 5) (n' := 578) dL_law_575 rfl lRL_69 okX5_ahead voX5_ahead (rkL ⟨⟨Nat.le_of_ble_eq_true rfl, Nat.le_of_ble_eq_true rfl⟩, Nat.le_of_ble_eq_true rfl, Nat.le_of_ble_eq_true rfl⟩) (jt_ahead h (xs (i + 1)) (xs (i + 2)) (xs (i + 3))) rfl rfl (Nat.le_of_ble_eq_true rfl) rfl (Nat.le_of_ble_eq_true rfl) rfl (fun x1 m1 q1 => ?_)
  refine w_aload_n (i := 2) (n' := 579) dL_law_578 rfl rfl rfl ?_
  refine w_aload_n (i := 0) (n' := 580) dL_law_579 rfl rfl rfl ?_
  refine w_iload_n (i := 3) (n' := 581) dL_law_580 rfl rfl rfl ?_
  refine w_iconst (v := 1) (n' := 582) dL_law_581 rfl rfl ?_
  refine w_iadd (n' := 583) dL_law_582 rfl ?_
  refine w_sld (n := i + 1) (n' := 584) dL_law_583 rfl (nI_add i 1) (by omega) hL ?_
  refine w_aload_n (i := 0) (n' := 585) dL_law_584 rfl rfl rfl ?_
  refine w_iload_n (i := 3) (n' := 586) dL_law_585 rfl rfl rfl ?_
  refine w_iconst (v := 2) (n' := 587) dL_law_586 rfl rfl ?_
  refine w_iadd (n' := 588) dL_law_587 rfl ?_
  refine w_sld (n := i + 2) (n' := 589) dL_law_588 rfl (nI_add i 2) (by omega) hL ?_
  refine w_aload_n (i := 0) (n' := 590) dL_law_589 rfl rfl rfl ?_
  refine w_iload_n (i := 3) (n' := 591) dL_law_590 rfl rfl rfl ?_
  refine w_iconst (v := 3) (n' := 592) dL_law_591 rfl rfl ?_
  refine w_iadd (n' := 593) dL_law_592 rfl ?_
  refine w_sld (n := i + 3) (n' := 594) dL_law_593 rfl (nI_add i 3) (by omega) hL ?_
  refine v_I (ci := 6) (n' := 597) dL_law_594 rfl lRL_72 okX6_ahead voX6_ahead (rkL ⟨⟨Nat.le_of_ble_eq_true rfl, Nat.le_of_ble_eq_true rfl⟩, Nat.le_of_ble_eq_true rfl, Nat.le_of_ble_eq_true rfl⟩) q1 rfl rfl (Nat.le_of_ble_eq_true rfl) rfl (Nat.le_of_ble_eq_true rfl) rfl (fun x2 m2 q2 => ?_)
  obtain ⟨rfl, hJ⟩ := q2
  exact w_icmp_eq (n' := 600) (tgt := 1495) dL_law_597 rfl rfl (fun _ => K _ hJ) (fun q => absurd rfl q)
set_option maxHeartbeats 4000000 in
theorem lc_14 {b L : Nat} {xs : Nat → Int32} {i : Nat} {mem : Mem} (hL : L ≤ 3072) (hi : i + 6 ≤ L) (h : J mem) (K : ∀ m2, J m2 → Wm mL (zL b L xs) 1495 [some (.ref 900), some (.ref 0), some (.ref 50), some (.int (nI i))] [] m2) : Wm mL (zL b L xs) 602 [some (.ref 900), some (.ref 0), some (.ref 50), some (.int (nI i))] [] mem := by
  refine w_aload_n (i := 1) (n' := 603) dL_law_602 rfl rfl rfl ?_
  refine w_aload_n (i := 0) (n' := 604) dL_law_603 rfl rfl rfl ?_
  refine w_iload_n (i := 3) (n' := 605) dL_law_604 rfl rfl rfl ?_
  refine w_iconst (v := 1) (n' := 606) dL_law_605 rfl rfl ?_
  refine w_iadd (n' := 607) dL_law_606 rfl ?_
  refine w_sld (n := i + 1) (n' := 608) dL_law_607 rfl (nI_add i 1) (by omega) hL ?_
  refine v_I (ci := 5) (n' := 611) dL_law_608 rfl lRL_73 okX5_leans voX5_leans (rkL ⟨⟨Nat.le_of_ble_eq_true rfl, Nat.le_of_ble_eq_true rfl⟩, Nat.le_of_ble_eq_true rfl, Nat.le_of_ble_eq_true rfl⟩) (jt_leans h (xs (i + 1))) rfl rfl (Nat.le_of_ble_eq_true rfl) rfl (Nat.le_of_ble_eq_true rfl) rfl (fun x1 m1 q1 => ?_)
  refine w_aload_n (i := 2) (n' := 612) dL_law_611 rfl rfl rfl ?_
  refine w_aload_n (i := 0) (n' := 613) dL_law_612 rfl rfl rfl ?_
  refine w_iload_n (i := 3) (n' := 614) dL_law_613 rfl rfl rfl ?_
  refine w_iconst (v := 1) (n' := 615) dL_law_614 rfl rfl ?_
  refine w_iadd (n' := 616) dL_law_615 rfl ?_
  refine w_sld (n := i + 1) (n' := 617) dL_law_616 rfl (nI_add i 1) (by omega) hL ?_
  refine v_I (ci := 6) (n' := 620) dL_law_617 rfl lRL_76 okX6_leans voX6_leans (rkL ⟨⟨Nat.le_of_ble_eq_true rfl, Nat.le_of_ble_eq_true rfl⟩, Nat.le_of_ble_eq_true rfl, Nat.le_of_ble_eq_true rfl⟩) q1 rfl rfl (Nat.le_of_ble_eq_true rfl) rfl (Nat.le_of_ble_eq_true rfl) rfl (fun x2 m2 q2 => ?_)
  obtain ⟨rfl, hJ⟩ := q2
  exact w_icmp_eq (n' := 623) (tgt := 1495) dL_law_620 rfl rfl (fun _ => K _ hJ) (fun q => absurd rfl q)
set_option maxHeartbeats 4000000 in
theorem lc_15 {b L : Nat} {xs : Nat → Int32} {i : Nat} {mem : Mem} (hL : L ≤ 3072) (hi : i + 6 ≤ L) (h : J mem) (K : ∀ m2, J m2 → Wm mL (zL b L xs) 1495 [some (.ref 900), some (.ref 0), some (.ref 50), some (.int (nI i))] [] m2) : Wm mL (zL b L xs) 625 [some (.ref 900), some (.ref 0), some (.ref 50), some (.int (nI i))] [] mem := by
  refine w_aload_n (i := 1) (n' := 626) dL_law_625 rfl rfl rfl ?_
  refine w_aload_n (i := 0) (n' := 627) dL_law_626 rfl rfl rfl ?_
  refine w_iload_n (i := 3) (n' := 628) dL_law_627 rfl rfl rfl ?_
  refine w_iconst (v := 1) (n' := 629) dL_law_628 rfl rfl ?_
  refine w_iadd (n' := 630) dL_law_629 rfl ?_
  refine w_sld (n := i + 1) (n' := 631) dL_law_630 rfl (nI_add i 1) (by omega) hL ?_
  refine v_I (ci := 5) (n' := 634) dL_law_631 rfl lRL_77 okX5_when voX5_when (rkL ⟨⟨Nat.le_of_ble_eq_true rfl, Nat.le_of_ble_eq_true rfl⟩, Nat.le_of_ble_eq_true rfl, Nat.le_of_ble_eq_true rfl⟩) (jt_when h (xs (i + 1))) rfl rfl (Nat.le_of_ble_eq_true rfl) rfl (Nat.le_of_ble_eq_true rfl) rfl (fun x1 m1 q1 => ?_)
  refine w_aload_n (i := 2) (n' := 635) dL_law_634 rfl rfl rfl ?_
  refine w_aload_n (i := 0) (n' := 636) dL_law_635 rfl rfl rfl ?_
  refine w_iload_n (i := 3) (n' := 637) dL_law_636 rfl rfl rfl ?_
  refine w_iconst (v := 1) (n' := 638) dL_law_637 rfl rfl ?_
  refine w_iadd (n' := 639) dL_law_638 rfl ?_
  refine w_sld (n := i + 1) (n' := 640) dL_law_639 rfl (nI_add i 1) (by omega) hL ?_
  refine v_I (ci := 6) (n' := 643) dL_law_640 rfl lRL_80 okX6_when voX6_when (rkL ⟨⟨Nat.le_of_ble_eq_true rfl, Nat.le_of_ble_eq_true rfl⟩, Nat.le_of_ble_eq_true rfl, Nat.le_of_ble_eq_true rfl⟩) q1 rfl rfl (Nat.le_of_ble_eq_true rfl) rfl (Nat.le_of_ble_eq_true rfl) rfl (fun x2 m2 q2 => ?_)
  obtain ⟨rfl, hJ⟩ := q2
  exact w_icmp_eq (n' := 646) (tgt := 1495) dL_law_643 rfl rfl (fun _ => K _ hJ) (fun q => absurd rfl q)
set_option maxHeartbeats 4000000 in
theorem lc_16 {b L : Nat} {xs : Nat → Int32} {i : Nat} {mem : Mem} (hL : L ≤ 3072) (hi : i + 6 ≤ L) (h : J mem) (K : ∀ m2, J m2 → Wm mL (zL b L xs) 1495 [some (.ref 900), some (.ref 0), some (.ref 50), some (.int (nI i))] [] m2) : Wm mL (zL b L xs) 648 [some (.ref 900), some (.ref 0), some (.ref 50), some (.int (nI i))] [] mem := by
  refine w_aload_n (i := 1) (n' := 649) dL_law_648 rfl rfl rfl ?_
  refine v_I (ci := 5) (n' := 652) dL_law_649 rfl lRL_81 okX5_tie voX5_tie (rkL ⟨⟨Nat.le_of_ble_eq_true rfl, Nat.le_of_ble_eq_true rfl⟩, Nat.le_of_ble_eq_true rfl, Nat.le_of_ble_eq_true rfl⟩) (jt_tie h ) rfl rfl (Nat.le_of_ble_eq_true rfl) rfl (Nat.le_of_ble_eq_true rfl) rfl (fun x1 m1 q1 => ?_)
  refine w_aload_n (i := 2) (n' := 653) dL_law_652 rfl rfl rfl ?_
  refine v_I (ci := 6) (n' := 656) dL_law_653 rfl lRL_84 okX6_tie voX6_tie (rkL ⟨⟨Nat.le_of_ble_eq_true rfl, Nat.le_of_ble_eq_true rfl⟩, Nat.le_of_ble_eq_true rfl, Nat.le_of_ble_eq_true rfl⟩) q1 rfl rfl (Nat.le_of_ble_eq_true rfl) rfl (Nat.le_of_ble_eq_true rfl) rfl (fun x2 m2 q2 => ?_)
  obtain ⟨rfl, hJ⟩ := q2
  exact w_icmp_eq (n' := 659) (tgt := 1495) dL_law_656 rfl rfl (fun _ => K _ hJ) (fun q => absurd rfl q)
set_option maxHeartbeats 4000000 in
theorem lc_17 {b L : Nat} {xs : Nat → Int32} {i : Nat} {mem : Mem} (hL : L ≤ 3072) (hi : i + 6 ≤ L) (h : J mem) (K : ∀ m2, J m2 → Wm mL (zL b L xs) 1495 [some (.ref 900), some (.ref 0), some (.ref 50), some (.int (nI i))] [] m2) : Wm mL (zL b L xs) 661 [some (.ref 900), some (.ref 0), some (.ref 50), some (.int (nI i))] [] mem := by
  refine w_aload_n (i := 1) (n' := 662) dL_law_661 rfl rfl rfl ?_
  refine w_aload_n (i := 0) (n' := 663) dL_law_662 rfl rfl rfl ?_
  refine w_iload_n (i := 3) (n' := 664) dL_law_663 rfl rfl rfl ?_
  refine w_iconst (v := 1) (n' := 665) dL_law_664 rfl rfl ?_
  refine w_iadd (n' := 666) dL_law_665 rfl ?_
  refine w_sld (n := i + 1) (n' := 667) dL_law_666 rfl (nI_add i 1) (by omega) hL ?_
  refine v_I (ci := 5) (n' := 670) dL_law_667 rfl lRL_85 okX5_turns voX5_turns (rkL ⟨⟨Nat.le_of_ble_eq_true rfl, Nat.le_of_ble_eq_true rfl⟩, Nat.le_of_ble_eq_true rfl, Nat.le_of_ble_eq_true rfl⟩) (jt_turns h (xs (i + 1))) rfl rfl (Nat.le_of_ble_eq_true rfl) rfl (Nat.le_of_ble_eq_true rfl) rfl (fun x1 m1 q1 => ?_)
  refine w_aload_n (i := 2) (n' := 671) dL_law_670 rfl rfl rfl ?_
  refine w_aload_n (i := 0) (n' := 672) dL_law_671 rfl rfl rfl ?_
  refine w_iload_n (i := 3) (n' := 673) dL_law_672 rfl rfl rfl ?_
  refine w_iconst (v := 1) (n' := 674) dL_law_673 rfl rfl ?_
  refine w_iadd (n' := 675) dL_law_674 rfl ?_
  refine w_sld (n := i + 1) (n' := 676) dL_law_675 rfl (nI_add i 1) (by omega) hL ?_
  refine v_I (ci := 6) (n' := 679) dL_law_676 rfl lRL_88 okX6_turns voX6_turns (rkL ⟨⟨Nat.le_of_ble_eq_true rfl, Nat.le_of_ble_eq_true rfl⟩, Nat.le_of_ble_eq_true rfl, Nat.le_of_ble_eq_true rfl⟩) q1 rfl rfl (Nat.le_of_ble_eq_true rfl) rfl (Nat.le_of_ble_eq_true rfl) rfl (fun x2 m2 q2 => ?_)
  obtain ⟨rfl, hJ⟩ := q2
  exact w_icmp_eq (n' := 682) (tgt := 1495) dL_law_679 rfl rfl (fun _ => K _ hJ) (fun q => absurd rfl q)
set_option maxHeartbeats 4000000 in
theorem lc_18 {b L : Nat} {xs : Nat → Int32} {i : Nat} {mem : Mem} (hL : L ≤ 3072) (hi : i + 6 ≤ L) (h : J mem) (K : ∀ m2, J m2 → Wm mL (zL b L xs) 1495 [some (.ref 900), some (.ref 0), some (.ref 50), some (.int (nI i))] [] m2) : Wm mL (zL b L xs) 684 [some (.ref 900), some (.ref 0), some (.ref 50), some (.int (nI i))] [] mem := by
  refine w_aload_n (i := 1) (n' := 685) dL_law_684 rfl rfl rfl ?_
  refine w_aload_n (i := 0) (n' := 686) dL_law_685 rfl rfl rfl ?_
  refine w_iload_n (i := 3) (n' := 687) dL_law_686 rfl rfl rfl ?_
  refine w_iconst (v := 1) (n' := 688) dL_law_687 rfl rfl ?_
  refine w_iadd (n' := 689) dL_law_688 rfl ?_
  refine w_sld (n := i + 1) (n' := 690) dL_law_689 rfl (nI_add i 1) (by omega) hL ?_
  refine v_I (ci := 5) (n' := 693) dL_law_690 rfl lRL_89 okX5_mostHands voX5_mostHands (rkL ⟨⟨Nat.le_of_ble_eq_true rfl, Nat.le_of_ble_eq_true rfl⟩, Nat.le_of_ble_eq_true rfl, Nat.le_of_ble_eq_true rfl⟩) (jt_mostHands h (xs (i + 1))) rfl rfl (Nat.le_of_ble_eq_true rfl) rfl (Nat.le_of_ble_eq_true rfl) rfl (fun x1 m1 q1 => ?_)
  refine w_aload_n (i := 2) (n' := 694) dL_law_693 rfl rfl rfl ?_
  refine w_aload_n (i := 0) (n' := 695) dL_law_694 rfl rfl rfl ?_
  refine w_iload_n (i := 3) (n' := 696) dL_law_695 rfl rfl rfl ?_
  refine w_iconst (v := 1) (n' := 697) dL_law_696 rfl rfl ?_
  refine w_iadd (n' := 698) dL_law_697 rfl ?_
  refine w_sld (n := i + 1) (n' := 699) dL_law_698 rfl (nI_add i 1) (by omega) hL ?_
  refine v_I (ci := 6) (n' := 702) dL_law_699 rfl lRL_92 okX6_mostHands voX6_mostHands (rkL ⟨⟨Nat.le_of_ble_eq_true rfl, Nat.le_of_ble_eq_true rfl⟩, Nat.le_of_ble_eq_true rfl, Nat.le_of_ble_eq_true rfl⟩) q1 rfl rfl (Nat.le_of_ble_eq_true rfl) rfl (Nat.le_of_ble_eq_true rfl) rfl (fun x2 m2 q2 => ?_)
  obtain ⟨rfl, hJ⟩ := q2
  exact w_icmp_eq (n' := 705) (tgt := 1495) dL_law_702 rfl rfl (fun _ => K _ hJ) (fun q => absurd rfl q)
set_option maxHeartbeats 4000000 in
theorem lc_19 {b L : Nat} {xs : Nat → Int32} {i : Nat} {mem : Mem} (hL : L ≤ 3072) (hi : i + 6 ≤ L) (h : J mem) (K : ∀ m2, J m2 → Wm mL (zL b L xs) 1495 [some (.ref 900), some (.ref 0), some (.ref 50), some (.int (nI i))] [] m2) : Wm mL (zL b L xs) 707 [some (.ref 900), some (.ref 0), some (.ref 50), some (.int (nI i))] [] mem := by
  refine w_aload_n (i := 1) (n' := 708) dL_law_707 rfl rfl rfl ?_
  refine w_aload_n (i := 0) (n' := 709) dL_law_708 rfl rfl rfl ?_
  refine w_iload_n (i := 3) (n' := 710) dL_law_709 rfl rfl rfl ?_
  refine w_iconst (v := 1) (n' := 711) dL_law_710 rfl rfl ?_
  refine w_iadd (n' := 712) dL_law_711 rfl ?_
  refine w_sld (n := i + 1) (n' := 713) dL_law_712 rfl (nI_add i 1) (by omega) hL ?_
  refine v_I (ci := 5) (n' := 716) dL_law_713 rfl lRL_93 okX5_fewestHands voX5_fewestHands (rkL ⟨⟨Nat.le_of_ble_eq_true rfl, Nat.le_of_ble_eq_true rfl⟩, Nat.le_of_ble_eq_true rfl, Nat.le_of_ble_eq_true rfl⟩) (jt_fewestHands h (xs (i + 1))) rfl rfl (Nat.le_of_ble_eq_true rfl) rfl (Nat.le_of_ble_eq_true rfl) rfl (fun x1 m1 q1 => ?_)
  refine w_aload_n (i := 2) (n' := 717) dL_law_716 rfl rfl rfl ?_
  refine w_aload_n (i := 0) (n' := 718) dL_law_717 rfl rfl rfl ?_
  refine w_iload_n (i := 3) (n' := 719) dL_law_718 rfl rfl rfl ?_
  refine w_iconst (v := 1) (n' := 720) dL_law_719 rfl rfl ?_
  refine w_iadd (n' := 721) dL_law_720 rfl ?_
  refine w_sld (n := i + 1) (n' := 722) dL_law_721 rfl (nI_add i 1) (by omega) hL ?_
  refine v_I (ci := 6) (n' := 725) dL_law_722 rfl lRL_96 okX6_fewestHands voX6_fewestHands (rkL ⟨⟨Nat.le_of_ble_eq_true rfl, Nat.le_of_ble_eq_true rfl⟩, Nat.le_of_ble_eq_true rfl, Nat.le_of_ble_eq_true rfl⟩) q1 rfl rfl (Nat.le_of_ble_eq_true rfl) rfl (Nat.le_of_ble_eq_true rfl) rfl (fun x2 m2 q2 => ?_)
  obtain ⟨rfl, hJ⟩ := q2
  exact w_icmp_eq (n' := 728) (tgt := 1495) dL_law_725 rfl rfl (fun _ => K _ hJ) (fun q => absurd rfl q)
set_option maxHeartbeats 4000000 in
theorem lc_20 {b L : Nat} {xs : Nat → Int32} {i : Nat} {mem : Mem} (hL : L ≤ 3072) (hi : i + 6 ≤ L) (h : J mem) (K : ∀ m2, J m2 → Wm mL (zL b L xs) 1495 [some (.ref 900), some (.ref 0), some (.ref 50), some (.int (nI i))] [] m2) : Wm mL (zL b L xs) 730 [some (.ref 900), some (.ref 0), some (.ref 50), some (.int (nI i))] [] mem := by
  refine w_aload_n (i := 1) (n' := 731) dL_law_730 rfl rfl rfl ?_
  refine w_aload_n (i := 0) (n' := 732) dL_law_731 rfl rfl rfl ?_
  refine w_iload_n (i := 3) (n' := 733) dL_law_732 rfl rfl rfl ?_
  refine w_iconst (v := 1) (n' := 734) dL_law_733 rfl rfl ?_
  refine w_iadd (n' := 735) dL_law_734 rfl ?_
  refine w_sld (n := i + 1) (n' := 736) dL_law_735 rfl (nI_add i 1) (by omega) hL ?_
  refine v_I (ci := 5) (n' := 739) dL_law_736 rfl lRL_97 okX5_lend voX5_lend (rkL ⟨⟨Nat.le_of_ble_eq_true rfl, Nat.le_of_ble_eq_true rfl⟩, Nat.le_of_ble_eq_true rfl, Nat.le_of_ble_eq_true rfl⟩) (jt_lend h (xs (i + 1))) rfl rfl (Nat.le_of_ble_eq_true rfl) rfl (Nat.le_of_ble_eq_true rfl) rfl (fun x1 m1 q1 => ?_)
  refine w_aload_n (i := 2) (n' := 740) dL_law_739 rfl rfl rfl ?_
  refine w_aload_n (i := 0) (n' := 741) dL_law_740 rfl rfl rfl ?_
  refine w_iload_n (i := 3) (n' := 742) dL_law_741 rfl rfl rfl ?_
  refine w_iconst (v := 1) (n' := 743) dL_law_742 rfl rfl ?_
  refine w_iadd (n' := 744) dL_law_743 rfl ?_
  refine w_sld (n := i + 1) (n' := 745) dL_law_744 rfl (nI_add i 1) (by omega) hL ?_
  refine v_I (ci := 6) (n' := 748) dL_law_745 rfl lRL_100 okX6_lend voX6_lend (rkL ⟨⟨Nat.le_of_ble_eq_true rfl, Nat.le_of_ble_eq_true rfl⟩, Nat.le_of_ble_eq_true rfl, Nat.le_of_ble_eq_true rfl⟩) q1 rfl rfl (Nat.le_of_ble_eq_true rfl) rfl (Nat.le_of_ble_eq_true rfl) rfl (fun x2 m2 q2 => ?_)
  obtain ⟨rfl, hJ⟩ := q2
  exact w_icmp_eq (n' := 751) (tgt := 1495) dL_law_748 rfl rfl (fun _ => K _ hJ) (fun q => absurd rfl q)
set_option maxHeartbeats 4000000 in
theorem lc_21 {b L : Nat} {xs : Nat → Int32} {i : Nat} {mem : Mem} (hL : L ≤ 3072) (hi : i + 6 ≤ L) (h : J mem) (K : ∀ m2, J m2 → Wm mL (zL b L xs) 1495 [some (.ref 900), some (.ref 0), some (.ref 50), some (.int (nI i))] [] m2) : Wm mL (zL b L xs) 753 [some (.ref 900), some (.ref 0), some (.ref 50), some (.int (nI i))] [] mem := by
  refine w_aload_n (i := 1) (n' := 754) dL_law_753 rfl rfl rfl ?_
  refine w_aload_n (i := 0) (n' := 755) dL_law_754 rfl rfl rfl ?_
  refine w_iload_n (i := 3) (n' := 756) dL_law_755 rfl rfl rfl ?_
  refine w_iconst (v := 1) (n' := 757) dL_law_756 rfl rfl ?_
  refine w_iadd (n' := 758) dL_law_757 rfl ?_
  refine w_sld (n := i + 1) (n' := 759) dL_law_758 rfl (nI_add i 1) (by omega) hL ?_
  refine v_I (ci := 5) (n' := 762) dL_law_759 rfl lRL_101 okX5_kinds voX5_kinds (rkL ⟨⟨Nat.le_of_ble_eq_true rfl, Nat.le_of_ble_eq_true rfl⟩, Nat.le_of_ble_eq_true rfl, Nat.le_of_ble_eq_true rfl⟩) (jt_kinds h (xs (i + 1))) rfl rfl (Nat.le_of_ble_eq_true rfl) rfl (Nat.le_of_ble_eq_true rfl) rfl (fun x1 m1 q1 => ?_)
  refine w_aload_n (i := 2) (n' := 763) dL_law_762 rfl rfl rfl ?_
  refine w_aload_n (i := 0) (n' := 764) dL_law_763 rfl rfl rfl ?_
  refine w_iload_n (i := 3) (n' := 765) dL_law_764 rfl rfl rfl ?_
  refine w_iconst (v := 1) (n' := 766) dL_law_765 rfl rfl ?_
  refine w_iadd (n' := 767) dL_law_766 rfl ?_
  refine w_sld (n := i + 1) (n' := 768) dL_law_767 rfl (nI_add i 1) (by omega) hL ?_
  refine v_I (ci := 6) (n' := 771) dL_law_768 rfl lRL_104 okX6_kinds voX6_kinds (rkL ⟨⟨Nat.le_of_ble_eq_true rfl, Nat.le_of_ble_eq_true rfl⟩, Nat.le_of_ble_eq_true rfl, Nat.le_of_ble_eq_true rfl⟩) q1 rfl rfl (Nat.le_of_ble_eq_true rfl) rfl (Nat.le_of_ble_eq_true rfl) rfl (fun x2 m2 q2 => ?_)
  obtain ⟨rfl, hJ⟩ := q2
  exact w_icmp_eq (n' := 774) (tgt := 1495) dL_law_771 rfl rfl (fun _ => K _ hJ) (fun q => absurd rfl q)
set_option maxHeartbeats 4000000 in
theorem lc_22 {b L : Nat} {xs : Nat → Int32} {i : Nat} {mem : Mem} (hL : L ≤ 3072) (hi : i + 6 ≤ L) (h : J mem) (K : ∀ m2, J m2 → Wm mL (zL b L xs) 1495 [some (.ref 900), some (.ref 0), some (.ref 50), some (.int (nI i))] [] m2) : Wm mL (zL b L xs) 776 [some (.ref 900), some (.ref 0), some (.ref 50), some (.int (nI i))] [] mem := by
  refine w_aload_n (i := 1) (n' := 777) dL_law_776 rfl rfl rfl ?_
  refine w_aload_n (i := 0) (n' := 778) dL_law_777 rfl rfl rfl ?_
  refine w_iload_n (i := 3) (n' := 779) dL_law_778 rfl rfl rfl ?_
  refine w_iconst (v := 1) (n' := 780) dL_law_779 rfl rfl ?_
  refine w_iadd (n' := 781) dL_law_780 rfl ?_
  refine w_sld (n := i + 1) (n' := 782) dL_law_781 rfl (nI_add i 1) (by omega) hL ?_
  refine v_I (ci := 5) (n' := 785) dL_law_782 rfl lRL_105 okX5_wetFor voX5_wetFor (rkL ⟨⟨Nat.le_of_ble_eq_true rfl, Nat.le_of_ble_eq_true rfl⟩, Nat.le_of_ble_eq_true rfl, Nat.le_of_ble_eq_true rfl⟩) (jt_wetFor h (xs (i + 1))) rfl rfl (Nat.le_of_ble_eq_true rfl) rfl (Nat.le_of_ble_eq_true rfl) rfl (fun x1 m1 q1 => ?_)
  refine w_aload_n (i := 2) (n' := 786) dL_law_785 rfl rfl rfl ?_
  refine w_aload_n (i := 0) (n' := 787) dL_law_786 rfl rfl rfl ?_
  refine w_iload_n (i := 3) (n' := 788) dL_law_787 rfl rfl rfl ?_
  refine w_iconst (v := 1) (n' := 789) dL_law_788 rfl rfl ?_
  refine w_iadd (n' := 790) dL_law_789 rfl ?_
  refine w_sld (n := i + 1) (n' := 791) dL_law_790 rfl (nI_add i 1) (by omega) hL ?_
  refine v_I (ci := 6) (n' := 794) dL_law_791 rfl lRL_108 okX6_wetFor voX6_wetFor (rkL ⟨⟨Nat.le_of_ble_eq_true rfl, Nat.le_of_ble_eq_true rfl⟩, Nat.le_of_ble_eq_true rfl, Nat.le_of_ble_eq_true rfl⟩) q1 rfl rfl (Nat.le_of_ble_eq_true rfl) rfl (Nat.le_of_ble_eq_true rfl) rfl (fun x2 m2 q2 => ?_)
  obtain ⟨rfl, hJ⟩ := q2
  exact w_icmp_eq (n' := 797) (tgt := 1495) dL_law_794 rfl rfl (fun _ => K _ hJ) (fun q => absurd rfl q)
set_option maxHeartbeats 4000000 in
theorem lc_23 {b L : Nat} {xs : Nat → Int32} {i : Nat} {mem : Mem} (hL : L ≤ 3072) (hi : i + 6 ≤ L) (h : J mem) (K : ∀ m2, J m2 → Wm mL (zL b L xs) 1495 [some (.ref 900), some (.ref 0), some (.ref 50), some (.int (nI i))] [] m2) : Wm mL (zL b L xs) 799 [some (.ref 900), some (.ref 0), some (.ref 50), some (.int (nI i))] [] mem := by
  refine w_aload_n (i := 1) (n' := 800) dL_law_799 rfl rfl rfl ?_
  refine w_aload_n (i := 0) (n' := 801) dL_law_800 rfl rfl rfl ?_
  refine w_iload_n (i := 3) (n' := 802) dL_law_801 rfl rfl rfl ?_
  refine w_iconst (v := 1) (n' := 803) dL_law_802 rfl rfl ?_
  refine w_iadd (n' := 804) dL_law_803 rfl ?_
  refine w_sld (n := i + 1) (n' := 805) dL_law_804 rfl (nI_add i 1) (by omega) hL ?_
  refine w_aload_n (i := 0) (n' := 806) dL_law_805 rfl rfl rfl ?_
  refine w_iload_n (i := 3) (n' := 807) dL_law_806 rfl rfl rfl ?_
  refine w_iconst (v := 2) (n' := 808) dL_law_807 rfl rfl ?_
  refine w_iadd (n' := 809) dL_law_808 rfl ?_
  refine w_sld (n := i + 2) (n' := 810) dL_law_809 rfl (nI_add i 2) (by omega) hL ?_
  refine v_I (ci := 5) (n' := 813) dL_law_810 rfl lRL_109 okX5_tell voX5_tell (rkL ⟨⟨Nat.le_of_ble_eq_true rfl, Nat.le_of_ble_eq_true rfl⟩, Nat.le_of_ble_eq_true rfl, Nat.le_of_ble_eq_true rfl⟩) (jt_tell h (xs (i + 1)) (xs (i + 2))) rfl rfl (Nat.le_of_ble_eq_true rfl) rfl (Nat.le_of_ble_eq_true rfl) rfl (fun x1 m1 q1 => ?_)
  refine w_aload_n (i := 2) (n' := 814) dL_law_813 rfl rfl rfl ?_
  refine w_aload_n (i := 0) (n' := 815) dL_law_814 rfl rfl rfl ?_
  refine w_iload_n (i := 3) (n' := 816) dL_law_815 rfl rfl rfl ?_
  refine w_iconst (v := 1) (n' := 817) dL_law_816 rfl rfl ?_
  refine w_iadd (n' := 818) dL_law_817 rfl ?_
  refine w_sld (n := i + 1) (n' := 819) dL_law_818 rfl (nI_add i 1) (by omega) hL ?_
  refine w_aload_n (i := 0) (n' := 820) dL_law_819 rfl rfl rfl ?_
  refine w_iload_n (i := 3) (n' := 821) dL_law_820 rfl rfl rfl ?_
  refine w_iconst (v := 2) (n' := 822) dL_law_821 rfl rfl ?_
  refine w_iadd (n' := 823) dL_law_822 rfl ?_
  refine w_sld (n := i + 2) (n' := 824) dL_law_823 rfl (nI_add i 2) (by omega) hL ?_
  refine v_I (ci := 6) (n' := 827) dL_law_824 rfl lRL_112 okX6_tell voX6_tell (rkL ⟨⟨Nat.le_of_ble_eq_true rfl, Nat.le_of_ble_eq_true rfl⟩, Nat.le_of_ble_eq_true rfl, Nat.le_of_ble_eq_true rfl⟩) q1 rfl rfl (Nat.le_of_ble_eq_true rfl) rfl (Nat.le_of_ble_eq_true rfl) rfl (fun x2 m2 q2 => ?_)
  obtain ⟨rfl, hJ⟩ := q2
  exact w_icmp_eq (n' := 830) (tgt := 1495) dL_law_827 rfl rfl (fun _ => K _ hJ) (fun q => absurd rfl q)
set_option maxHeartbeats 4000000 in
theorem lc_24 {b L : Nat} {xs : Nat → Int32} {i : Nat} {mem : Mem} (hL : L ≤ 3072) (hi : i + 6 ≤ L) (h : J mem) (K : ∀ m2, J m2 → Wm mL (zL b L xs) 1495 [some (.ref 900), some (.ref 0), some (.ref 50), some (.int (nI i))] [] m2) : Wm mL (zL b L xs) 832 [some (.ref 900), some (.ref 0), some (.ref 50), some (.int (nI i))] [] mem := by
  refine w_aload_n (i := 1) (n' := 833) dL_law_832 rfl rfl rfl ?_
  refine v_I (ci := 5) (n' := 836) dL_law_833 rfl lRL_113 okX5_voice voX5_voice (rkL ⟨⟨Nat.le_of_ble_eq_true rfl, Nat.le_of_ble_eq_true rfl⟩, Nat.le_of_ble_eq_true rfl, Nat.le_of_ble_eq_true rfl⟩) (jt_voice h ) rfl rfl (Nat.le_of_ble_eq_true rfl) rfl (Nat.le_of_ble_eq_true rfl) rfl (fun x1 m1 q1 => ?_)
  refine w_aload_n (i := 2) (n' := 837) dL_law_836 rfl rfl rfl ?_
  refine v_I (ci := 6) (n' := 840) dL_law_837 rfl lRL_116 okX6_voice voX6_voice (rkL ⟨⟨Nat.le_of_ble_eq_true rfl, Nat.le_of_ble_eq_true rfl⟩, Nat.le_of_ble_eq_true rfl, Nat.le_of_ble_eq_true rfl⟩) q1 rfl rfl (Nat.le_of_ble_eq_true rfl) rfl (Nat.le_of_ble_eq_true rfl) rfl (fun x2 m2 q2 => ?_)
  obtain ⟨rfl, hJ⟩ := q2
  exact w_icmp_eq (n' := 843) (tgt := 1495) dL_law_840 rfl rfl (fun _ => K _ hJ) (fun q => absurd rfl q)
set_option maxHeartbeats 4000000 in
theorem lc_25 {b L : Nat} {xs : Nat → Int32} {i : Nat} {mem : Mem} (hL : L ≤ 3072) (hi : i + 6 ≤ L) (h : J mem) (K : ∀ m2, J m2 → Wm mL (zL b L xs) 1495 [some (.ref 900), some (.ref 0), some (.ref 50), some (.int (nI i))] [] m2) : Wm mL (zL b L xs) 845 [some (.ref 900), some (.ref 0), some (.ref 50), some (.int (nI i))] [] mem := by
  refine w_aload_n (i := 1) (n' := 846) dL_law_845 rfl rfl rfl ?_
  refine w_aload_n (i := 0) (n' := 847) dL_law_846 rfl rfl rfl ?_
  refine w_iload_n (i := 3) (n' := 848) dL_law_847 rfl rfl rfl ?_
  refine w_iconst (v := 1) (n' := 849) dL_law_848 rfl rfl ?_
  refine w_iadd (n' := 850) dL_law_849 rfl ?_
  refine w_sld (n := i + 1) (n' := 851) dL_law_850 rfl (nI_add i 1) (by omega) hL ?_
  refine w_aload_n (i := 0) (n' := 852) dL_law_851 rfl rfl rfl ?_
  refine w_iload_n (i := 3) (n' := 853) dL_law_852 rfl rfl rfl ?_
  refine w_iconst (v := 2) (n' := 854) dL_law_853 rfl rfl ?_
  refine w_iadd (n' := 855) dL_law_854 rfl ?_
  refine w_sld (n := i + 2) (n' := 856) dL_law_855 rfl (nI_add i 2) (by omega) hL ?_
  refine v_I (ci := 5) (n' := 859) dL_law_856 rfl lRL_117 okX5_miceFor voX5_miceFor (rkL ⟨⟨Nat.le_of_ble_eq_true rfl, Nat.le_of_ble_eq_true rfl⟩, Nat.le_of_ble_eq_true rfl, Nat.le_of_ble_eq_true rfl⟩) (jt_miceFor h (xs (i + 1)) (xs (i + 2))) rfl rfl (Nat.le_of_ble_eq_true rfl) rfl (Nat.le_of_ble_eq_true rfl) rfl (fun x1 m1 q1 => ?_)
  refine w_aload_n (i := 2) (n' := 860) dL_law_859 rfl rfl rfl ?_
  refine w_aload_n (i := 0) (n' := 861) dL_law_860 rfl rfl rfl ?_
  refine w_iload_n (i := 3) (n' := 862) dL_law_861 rfl rfl rfl ?_
  refine w_iconst (v := 1) (n' := 863) dL_law_862 rfl rfl ?_
  refine w_iadd (n' := 864) dL_law_863 rfl ?_
  refine w_sld (n := i + 1) (n' := 865) dL_law_864 rfl (nI_add i 1) (by omega) hL ?_
  refine w_aload_n (i := 0) (n' := 866) dL_law_865 rfl rfl rfl ?_
  refine w_iload_n (i := 3) (n' := 867) dL_law_866 rfl rfl rfl ?_
  refine w_iconst (v := 2) (n' := 868) dL_law_867 rfl rfl ?_
  refine w_iadd (n' := 869) dL_law_868 rfl ?_
  refine w_sld (n := i + 2) (n' := 870) dL_law_869 rfl (nI_add i 2) (by omega) hL ?_
  refine v_I (ci := 6) (n' := 873) dL_law_870 rfl lRL_120 okX6_miceFor voX6_miceFor (rkL ⟨⟨Nat.le_of_ble_eq_true rfl, Nat.le_of_ble_eq_true rfl⟩, Nat.le_of_ble_eq_true rfl, Nat.le_of_ble_eq_true rfl⟩) q1 rfl rfl (Nat.le_of_ble_eq_true rfl) rfl (Nat.le_of_ble_eq_true rfl) rfl (fun x2 m2 q2 => ?_)
  obtain ⟨rfl, hJ⟩ := q2
  exact w_icmp_eq (n' := 876) (tgt := 1495) dL_law_873 rfl rfl (fun _ => K _ hJ) (fun q => absurd rfl q)
set_option maxHeartbeats 4000000 in
theorem lc_26 {b L : Nat} {xs : Nat → Int32} {i : Nat} {mem : Mem} (hL : L ≤ 3072) (hi : i + 6 ≤ L) (h : J mem) (K : ∀ m2, J m2 → Wm mL (zL b L xs) 1495 [some (.ref 900), some (.ref 0), some (.ref 50), some (.int (nI i))] [] m2) : Wm mL (zL b L xs) 878 [some (.ref 900), some (.ref 0), some (.ref 50), some (.int (nI i))] [] mem := by
  refine w_aload_n (i := 1) (n' := 879) dL_law_878 rfl rfl rfl ?_
  refine w_aload_n (i := 0) (n' := 880) dL_law_879 rfl rfl rfl ?_
  refine w_iload_n (i := 3) (n' := 881) dL_law_880 rfl rfl rfl ?_
  refine w_iconst (v := 1) (n' := 882) dL_law_881 rfl rfl ?_
  refine w_iadd (n' := 883) dL_law_882 rfl ?_
  refine w_sld (n := i + 1) (n' := 884) dL_law_883 rfl (nI_add i 1) (by omega) hL ?_
  refine w_aload_n (i := 0) (n' := 885) dL_law_884 rfl rfl rfl ?_
  refine w_iload_n (i := 3) (n' := 886) dL_law_885 rfl rfl rfl ?_
  refine w_iconst (v := 2) (n' := 887) dL_law_886 rfl rfl ?_
  refine w_iadd (n' := 888) dL_law_887 rfl ?_
  refine w_sld (n := i + 2) (n' := 889) dL_law_888 rfl (nI_add i 2) (by omega) hL ?_
  refine v_I (ci := 5) (n' := 892) dL_law_889 rfl lRL_121 okX5_wins voX5_wins (rkL ⟨⟨Nat.le_of_ble_eq_true rfl, Nat.le_of_ble_eq_true rfl⟩, Nat.le_of_ble_eq_true rfl, Nat.le_of_ble_eq_true rfl⟩) (jt_wins h (xs (i + 1)) (xs (i + 2))) rfl rfl (Nat.le_of_ble_eq_true rfl) rfl (Nat.le_of_ble_eq_true rfl) rfl (fun x1 m1 q1 => ?_)
  refine w_aload_n (i := 2) (n' := 893) dL_law_892 rfl rfl rfl ?_
  refine w_aload_n (i := 0) (n' := 894) dL_law_893 rfl rfl rfl ?_
  refine w_iload_n (i := 3) (n' := 895) dL_law_894 rfl rfl rfl ?_
  refine w_iconst (v := 1) (n' := 896) dL_law_895 rfl rfl ?_
  refine w_iadd (n' := 897) dL_law_896 rfl ?_
  refine w_sld (n := i + 1) (n' := 898) dL_law_897 rfl (nI_add i 1) (by omega) hL ?_
  refine w_aload_n (i := 0) (n' := 899) dL_law_898 rfl rfl rfl ?_
  refine w_iload_n (i := 3) (n' := 900) dL_law_899 rfl rfl rfl ?_
  refine w_iconst (v := 2) (n' := 901) dL_law_900 rfl rfl ?_
  refine w_iadd (n' := 902) dL_law_901 rfl ?_
  refine w_sld (n := i + 2) (n' := 903) dL_law_902 rfl (nI_add i 2) (by omega) hL ?_
  refine v_I (ci := 6) (n' := 906) dL_law_903 rfl lRL_124 okX6_wins voX6_wins (rkL ⟨⟨Nat.le_of_ble_eq_true rfl, Nat.le_of_ble_eq_true rfl⟩, Nat.le_of_ble_eq_true rfl, Nat.le_of_ble_eq_true rfl⟩) q1 rfl rfl (Nat.le_of_ble_eq_true rfl) rfl (Nat.le_of_ble_eq_true rfl) rfl (fun x2 m2 q2 => ?_)
  obtain ⟨rfl, hJ⟩ := q2
  exact w_icmp_eq (n' := 909) (tgt := 1495) dL_law_906 rfl rfl (fun _ => K _ hJ) (fun q => absurd rfl q)
set_option maxHeartbeats 4000000 in
theorem lc_27 {b L : Nat} {xs : Nat → Int32} {i : Nat} {mem : Mem} (hL : L ≤ 3072) (hi : i + 6 ≤ L) (h : J mem) (K : ∀ m2, J m2 → Wm mL (zL b L xs) 1495 [some (.ref 900), some (.ref 0), some (.ref 50), some (.int (nI i))] [] m2) : Wm mL (zL b L xs) 911 [some (.ref 900), some (.ref 0), some (.ref 50), some (.int (nI i))] [] mem := by
  refine w_aload_n (i := 1) (n' := 912) dL_law_911 rfl rfl rfl ?_
  refine w_aload_n (i := 0) (n' := 913) dL_law_912 rfl rfl rfl ?_
  refine w_iload_n (i := 3) (n' := 914) dL_law_913 rfl rfl rfl ?_
  refine w_iconst (v := 1) (n' := 915) dL_law_914 rfl rfl ?_
  refine w_iadd (n' := 916) dL_law_915 rfl ?_
  refine w_sld (n := i + 1) (n' := 917) dL_law_916 rfl (nI_add i 1) (by omega) hL ?_
  refine w_aload_n (i := 0) (n' := 918) dL_law_917 rfl rfl rfl ?_
  refine w_iload_n (i := 3) (n' := 919) dL_law_918 rfl rfl rfl ?_
  refine w_iconst (v := 2) (n' := 920) dL_law_919 rfl rfl ?_
  refine w_iadd (n' := 921) dL_law_920 rfl ?_
  refine w_sld (n := i + 2) (n' := 922) dL_law_921 rfl (nI_add i 2) (by omega) hL ?_
  refine v_I (ci := 5) (n' := 925) dL_law_922 rfl lRL_125 okX5_cut voX5_cut (rkL ⟨⟨Nat.le_of_ble_eq_true rfl, Nat.le_of_ble_eq_true rfl⟩, Nat.le_of_ble_eq_true rfl, Nat.le_of_ble_eq_true rfl⟩) (jt_cut h (xs (i + 1)) (xs (i + 2))) rfl rfl (Nat.le_of_ble_eq_true rfl) rfl (Nat.le_of_ble_eq_true rfl) rfl (fun x1 m1 q1 => ?_)
  refine w_aload_n (i := 2) (n' := 926) dL_law_925 rfl rfl rfl ?_
  refine w_aload_n (i := 0) (n' := 927) dL_law_926 rfl rfl rfl ?_
  refine w_iload_n (i := 3) (n' := 928) dL_law_927 rfl rfl rfl ?_
  refine w_iconst (v := 1) (n' := 929) dL_law_928 rfl rfl ?_
  refine w_iadd (n' := 930) dL_law_929 rfl ?_
  refine w_sld (n := i + 1) (n' := 931) dL_law_930 rfl (nI_add i 1) (by omega) hL ?_
  refine w_aload_n (i := 0) (n' := 932) dL_law_931 rfl rfl rfl ?_
  refine w_iload_n (i := 3) (n' := 933) dL_law_932 rfl rfl rfl ?_
  refine w_iconst (v := 2) (n' := 934) dL_law_933 rfl rfl ?_
  refine w_iadd (n' := 935) dL_law_934 rfl ?_
  refine w_sld (n := i + 2) (n' := 936) dL_law_935 rfl (nI_add i 2) (by omega) hL ?_
  refine v_I (ci := 6) (n' := 939) dL_law_936 rfl lRL_128 okX6_cut voX6_cut (rkL ⟨⟨Nat.le_of_ble_eq_true rfl, Nat.le_of_ble_eq_true rfl⟩, Nat.le_of_ble_eq_true rfl, Nat.le_of_ble_eq_true rfl⟩) q1 rfl rfl (Nat.le_of_ble_eq_true rfl) rfl (Nat.le_of_ble_eq_true rfl) rfl (fun x2 m2 q2 => ?_)
  obtain ⟨rfl, hJ⟩ := q2
  exact w_icmp_eq (n' := 942) (tgt := 1495) dL_law_939 rfl rfl (fun _ => K _ hJ) (fun q => absurd rfl q)
set_option maxHeartbeats 4000000 in
theorem lc_28 {b L : Nat} {xs : Nat → Int32} {i : Nat} {mem : Mem} (hL : L ≤ 3072) (hi : i + 6 ≤ L) (h : J mem) (K : ∀ m2, J m2 → Wm mL (zL b L xs) 1495 [some (.ref 900), some (.ref 0), some (.ref 50), some (.int (nI i))] [] m2) : Wm mL (zL b L xs) 944 [some (.ref 900), some (.ref 0), some (.ref 50), some (.int (nI i))] [] mem := by
  refine w_aload_n (i := 1) (n' := 945) dL_law_944 rfl rfl rfl ?_
  refine w_aload_n (i := 0) (n' := 946) dL_law_945 rfl rfl rfl ?_
  refine w_iload_n (i := 3) (n' := 947) dL_law_946 rfl rfl rfl ?_
  refine w_iconst (v := 1) (n' := 948) dL_law_947 rfl rfl ?_
  refine w_iadd (n' := 949) dL_law_948 rfl ?_
  refine w_sld (n := i + 1) (n' := 950) dL_law_949 rfl (nI_add i 1) (by omega) hL ?_
  refine w_aload_n (i := 0) (n' := 951) dL_law_950 rfl rfl rfl ?_
  refine w_iload_n (i := 3) (n' := 952) dL_law_951 rfl rfl rfl ?_
  refine w_iconst (v := 2) (n' := 953) dL_law_952 rfl rfl ?_
  refine w_iadd (n' := 954) dL_law_953 rfl ?_
  refine w_sld (n := i + 2) (n' := 955) dL_law_954 rfl (nI_add i 2) (by omega) hL ?_
  refine v_I (ci := 5) (n' := 958) dL_law_955 rfl lRL_129 okX5_fits voX5_fits (rkL ⟨⟨Nat.le_of_ble_eq_true rfl, Nat.le_of_ble_eq_true rfl⟩, Nat.le_of_ble_eq_true rfl, Nat.le_of_ble_eq_true rfl⟩) (jt_fits h (xs (i + 1)) (xs (i + 2))) rfl rfl (Nat.le_of_ble_eq_true rfl) rfl (Nat.le_of_ble_eq_true rfl) rfl (fun x1 m1 q1 => ?_)
  refine w_aload_n (i := 2) (n' := 959) dL_law_958 rfl rfl rfl ?_
  refine w_aload_n (i := 0) (n' := 960) dL_law_959 rfl rfl rfl ?_
  refine w_iload_n (i := 3) (n' := 961) dL_law_960 rfl rfl rfl ?_
  refine w_iconst (v := 1) (n' := 962) dL_law_961 rfl rfl ?_
  refine w_iadd (n' := 963) dL_law_962 rfl ?_
  refine w_sld (n := i + 1) (n' := 964) dL_law_963 rfl (nI_add i 1) (by omega) hL ?_
  refine w_aload_n (i := 0) (n' := 965) dL_law_964 rfl rfl rfl ?_
  refine w_iload_n (i := 3) (n' := 966) dL_law_965 rfl rfl rfl ?_
  refine w_iconst (v := 2) (n' := 967) dL_law_966 rfl rfl ?_
  refine w_iadd (n' := 968) dL_law_967 rfl ?_
  refine w_sld (n := i + 2) (n' := 969) dL_law_968 rfl (nI_add i 2) (by omega) hL ?_
  refine v_I (ci := 6) (n' := 972) dL_law_969 rfl lRL_132 okX6_fits voX6_fits (rkL ⟨⟨Nat.le_of_ble_eq_true rfl, Nat.le_of_ble_eq_true rfl⟩, Nat.le_of_ble_eq_true rfl, Nat.le_of_ble_eq_true rfl⟩) q1 rfl rfl (Nat.le_of_ble_eq_true rfl) rfl (Nat.le_of_ble_eq_true rfl) rfl (fun x2 m2 q2 => ?_)
  obtain ⟨rfl, hJ⟩ := q2
  exact w_icmp_eq (n' := 975) (tgt := 1495) dL_law_972 rfl rfl (fun _ => K _ hJ) (fun q => absurd rfl q)
set_option maxHeartbeats 4000000 in
theorem lc_29 {b L : Nat} {xs : Nat → Int32} {i : Nat} {mem : Mem} (hL : L ≤ 3072) (hi : i + 6 ≤ L) (h : J mem) (K : ∀ m2, J m2 → Wm mL (zL b L xs) 1495 [some (.ref 900), some (.ref 0), some (.ref 50), some (.int (nI i))] [] m2) : Wm mL (zL b L xs) 977 [some (.ref 900), some (.ref 0), some (.ref 50), some (.int (nI i))] [] mem := by
  refine w_aload_n (i := 1) (n' := 978) dL_law_977 rfl rfl rfl ?_
  refine w_aload_n (i := 0) (n' := 979) dL_law_978 rfl rfl rfl ?_
  refine w_iload_n (i := 3) (n' := 980) dL_law_979 rfl rfl rfl ?_
  refine w_iconst (v := 1) (n' := 981) dL_law_980 rfl rfl ?_
  refine w_iadd (n' := 982) dL_law_981 rfl ?_
  refine w_sld (n := i + 1) (n' := 983) dL_law_982 rfl (nI_add i 1) (by omega) hL ?_
  refine w_aload_n (i := 0) (n' := 984) dL_law_983 rfl rfl rfl ?_
  refine w_iload_n (i := 3) (n' := 985) dL_law_984 rfl rfl rfl ?_
  refine w_iconst (v := 2) (n' := 986) dL_law_985 rfl rfl ?_
  refine w_iadd (n' := 987) dL_law_986 rfl ?_
  refine w_sld (n := i + 2) (n' := 988) dL_law_987 rfl (nI_add i 2) (by omega) hL ?_
  refine v_I (ci := 5) (n' := 991) dL_law_988 rfl lRL_133 okX5_thinks voX5_thinks (rkL ⟨⟨Nat.le_of_ble_eq_true rfl, Nat.le_of_ble_eq_true rfl⟩, Nat.le_of_ble_eq_true rfl, Nat.le_of_ble_eq_true rfl⟩) (jt_thinks h (xs (i + 1)) (xs (i + 2))) rfl rfl (Nat.le_of_ble_eq_true rfl) rfl (Nat.le_of_ble_eq_true rfl) rfl (fun x1 m1 q1 => ?_)
  refine w_aload_n (i := 2) (n' := 992) dL_law_991 rfl rfl rfl ?_
  refine w_aload_n (i := 0) (n' := 993) dL_law_992 rfl rfl rfl ?_
  refine w_iload_n (i := 3) (n' := 994) dL_law_993 rfl rfl rfl ?_
  refine w_iconst (v := 1) (n' := 995) dL_law_994 rfl rfl ?_
  refine w_iadd (n' := 996) dL_law_995 rfl ?_
  refine w_sld (n := i + 1) (n' := 997) dL_law_996 rfl (nI_add i 1) (by omega) hL ?_
  refine w_aload_n (i := 0) (n' := 998) dL_law_997 rfl rfl rfl ?_
  refine w_iload_n (i := 3) (n' := 999) dL_law_998 rfl rfl rfl ?_
  refine w_iconst (v := 2) (n' := 1000) dL_law_999 rfl rfl ?_
  refine w_iadd (n' := 1001) dL_law_1000 rfl ?_
  refine w_sld (n := i + 2) (n' := 1002) dL_law_1001 rfl (nI_add i 2) (by omega) hL ?_
  refine v_I (ci := 6) (n' := 1005) dL_law_1002 rfl lRL_136 okX6_thinks voX6_thinks (rkL ⟨⟨Nat.le_of_ble_eq_true rfl, Nat.le_of_ble_eq_true rfl⟩, Nat.le_of_ble_eq_true rfl, Nat.le_of_ble_eq_true rfl⟩) q1 rfl rfl (Nat.le_of_ble_eq_true rfl) rfl (Nat.le_of_ble_eq_true rfl) rfl (fun x2 m2 q2 => ?_)
  obtain ⟨rfl, hJ⟩ := q2
  exact w_icmp_eq (n' := 1008) (tgt := 1495) dL_law_1005 rfl rfl (fun _ => K _ hJ) (fun q => absurd rfl q)
set_option maxHeartbeats 4000000 in
theorem lc_30 {b L : Nat} {xs : Nat → Int32} {i : Nat} {mem : Mem} (hL : L ≤ 3072) (hi : i + 6 ≤ L) (h : J mem) (K : ∀ m2, J m2 → Wm mL (zL b L xs) 1495 [some (.ref 900), some (.ref 0), some (.ref 50), some (.int (nI i))] [] m2) : Wm mL (zL b L xs) 1010 [some (.ref 900), some (.ref 0), some (.ref 50), some (.int (nI i))] [] mem := by
  refine w_aload_n (i := 1) (n' := 1011) dL_law_1010 rfl rfl rfl ?_
  refine w_aload_n (i := 0) (n' := 1012) dL_law_1011 rfl rfl rfl ?_
  refine w_iload_n (i := 3) (n' := 1013) dL_law_1012 rfl rfl rfl ?_
  refine w_iconst (v := 1) (n' := 1014) dL_law_1013 rfl rfl ?_
  refine w_iadd (n' := 1015) dL_law_1014 rfl ?_
  refine w_sld (n := i + 1) (n' := 1016) dL_law_1015 rfl (nI_add i 1) (by omega) hL ?_
  refine v_I (ci := 5) (n' := 1019) dL_law_1016 rfl lRL_137 okX5_weathers voX5_weathers (rkL ⟨⟨Nat.le_of_ble_eq_true rfl, Nat.le_of_ble_eq_true rfl⟩, Nat.le_of_ble_eq_true rfl, Nat.le_of_ble_eq_true rfl⟩) (jt_weathers h (xs (i + 1))) rfl rfl (Nat.le_of_ble_eq_true rfl) rfl (Nat.le_of_ble_eq_true rfl) rfl (fun x1 m1 q1 => ?_)
  refine w_aload_n (i := 2) (n' := 1020) dL_law_1019 rfl rfl rfl ?_
  refine w_aload_n (i := 0) (n' := 1021) dL_law_1020 rfl rfl rfl ?_
  refine w_iload_n (i := 3) (n' := 1022) dL_law_1021 rfl rfl rfl ?_
  refine w_iconst (v := 1) (n' := 1023) dL_law_1022 rfl rfl ?_
  refine w_iadd (n' := 1024) dL_law_1023 rfl ?_
  refine w_sld (n := i + 1) (n' := 1025) dL_law_1024 rfl (nI_add i 1) (by omega) hL ?_
  refine v_I (ci := 6) (n' := 1028) dL_law_1025 rfl lRL_140 okX6_weathers voX6_weathers (rkL ⟨⟨Nat.le_of_ble_eq_true rfl, Nat.le_of_ble_eq_true rfl⟩, Nat.le_of_ble_eq_true rfl, Nat.le_of_ble_eq_true rfl⟩) q1 rfl rfl (Nat.le_of_ble_eq_true rfl) rfl (Nat.le_of_ble_eq_true rfl) rfl (fun x2 m2 q2 => ?_)
  obtain ⟨rfl, hJ⟩ := q2
  exact w_icmp_eq (n' := 1031) (tgt := 1495) dL_law_1028 rfl rfl (fun _ => K _ hJ) (fun q => absurd rfl q)
set_option maxHeartbeats 4000000 in
theorem lc_31 {b L : Nat} {xs : Nat → Int32} {i : Nat} {mem : Mem} (hL : L ≤ 3072) (hi : i + 6 ≤ L) (h : J mem) (K : ∀ m2, J m2 → Wm mL (zL b L xs) 1495 [some (.ref 900), some (.ref 0), some (.ref 50), some (.int (nI i))] [] m2) : Wm mL (zL b L xs) 1033 [some (.ref 900), some (.ref 0), some (.ref 50), some (.int (nI i))] [] mem := by
  refine w_aload_n (i := 1) (n' := 1034) dL_law_1033 rfl rfl rfl ?_
  refine w_aload_n (i := 0) (n' := 1035) dL_law_1034 rfl rfl rfl ?_
  refine w_iload_n (i := 3) (n' := 1036) dL_law_1035 rfl rfl rfl ?_
  refine w_iconst (v := 1) (n' := 1037) dL_law_1036 rfl rfl ?_
  refine w_iadd (n' := 1038) dL_law_1037 rfl ?_
  refine w_sld (n := i + 1) (n' := 1039) dL_law_1038 rfl (nI_add i 1) (by omega) hL ?_
  refine w_aload_n (i := 0) (n' := 1040) dL_law_1039 rfl rfl rfl ?_
  refine w_iload_n (i := 3) (n' := 1041) dL_law_1040 rfl rfl rfl ?_
  refine w_iconst (v := 2) (n' := 1042) dL_law_1041 rfl rfl ?_
  refine w_iadd (n' := 1043) dL_law_1042 rfl ?_
  refine w_sld (n := i + 2) (n' := 1044) dL_law_1043 rfl (nI_add i 2) (by omega) hL ?_
  refine s_L (ci := 5) (n' := 1047) dL_law_1044 rfl lRL_141 okX5_odds voX5_odds (rkL ⟨⟨Nat.le_of_ble_eq_true rfl, Nat.le_of_ble_eq_true rfl⟩, Nat.le_of_ble_eq_true rfl, Nat.le_of_ble_eq_true rfl⟩) (jt_odds h (xs (i + 1)) (xs (i + 2))) rfl rfl (Nat.le_of_ble_eq_true rfl) rfl (Nat.le_of_ble_eq_true rfl) rfl (fun x1 m1 q1 => ?_)
  refine w_aload_n (i := 2) (n' := 1048) dL_law_1047 rfl rfl rfl ?_
  refine w_aload_n (i := 0) (n' := 1049) dL_law_1048 rfl rfl rfl ?_
  refine w_iload_n (i := 3) (n' := 1050) dL_law_1049 rfl rfl rfl ?_
  refine w_iconst (v := 1) (n' := 1051) dL_law_1050 rfl rfl ?_
  refine w_iadd (n' := 1052) dL_law_1051 rfl ?_
  refine w_sld (n := i + 1) (n' := 1053) dL_law_1052 rfl (nI_add i 1) (by omega) hL ?_
  refine w_aload_n (i := 0) (n' := 1054) dL_law_1053 rfl rfl rfl ?_
  refine w_iload_n (i := 3) (n' := 1055) dL_law_1054 rfl rfl rfl ?_
  refine w_iconst (v := 2) (n' := 1056) dL_law_1055 rfl rfl ?_
  refine w_iadd (n' := 1057) dL_law_1056 rfl ?_
  refine w_sld (n := i + 2) (n' := 1058) dL_law_1057 rfl (nI_add i 2) (by omega) hL ?_
  refine s_L (P := fun x2 m2 => x2 = x1 ∧ J m2) (ci := 6) (n' := 1061) dL_law_1058 rfl lRL_145 okX6_odds voX6_odds (rkL ⟨⟨Nat.le_of_ble_eq_true rfl, Nat.le_of_ble_eq_true rfl⟩, Nat.le_of_ble_eq_true rfl, Nat.le_of_ble_eq_true rfl⟩) (Cn.mono q1 (fun r m2 ⟨e1, e2⟩ => ⟨x1, e1, rfl, e2⟩)) rfl rfl (Nat.le_of_ble_eq_true rfl) rfl (Nat.le_of_ble_eq_true rfl) rfl (fun x2 m2 q2 => ?_)
  obtain ⟨rfl, hJ⟩ := q2
  refine w_lcmp (n' := 1062) dL_law_1061 rfl ?_
  rw [lg_refl]
  exact w_if_eq (n' := 1065) (tgt := 1495) dL_law_1062 rfl rfl (fun _ => K _ hJ) (fun q => absurd rfl q)
set_option maxHeartbeats 4000000 in
theorem lc_32 {b L : Nat} {xs : Nat → Int32} {i : Nat} {mem : Mem} (hL : L ≤ 3072) (hi : i + 6 ≤ L) (h : J mem) (K : ∀ m2, J m2 → Wm mL (zL b L xs) 1495 [some (.ref 900), some (.ref 0), some (.ref 50), some (.int (nI i))] [] m2) : Wm mL (zL b L xs) 1067 [some (.ref 900), some (.ref 0), some (.ref 50), some (.int (nI i))] [] mem := by
  refine w_aload_n (i := 1) (n' := 1068) dL_law_1067 rfl rfl rfl ?_
  refine w_aload_n (i := 0) (n' := 1069) dL_law_1068 rfl rfl rfl ?_
  refine w_iload_n (i := 3) (n' := 1070) dL_law_1069 rfl rfl rfl ?_
  refine w_iconst (v := 1) (n' := 1071) dL_law_1070 rfl rfl ?_
  refine w_iadd (n' := 1072) dL_law_1071 rfl ?_
  refine w_sld (n := i + 1) (n' := 1073) dL_law_1072 rfl (nI_add i 1) (by omega) hL ?_
  refine v_I (ci := 5) (n' := 1076) dL_law_1073 rfl lRL_146 okX5_seed voX5_seed (rkL ⟨⟨Nat.le_of_ble_eq_true rfl, Nat.le_of_ble_eq_true rfl⟩, Nat.le_of_ble_eq_true rfl, Nat.le_of_ble_eq_true rfl⟩) (jt_seed h (xs (i + 1))) rfl rfl (Nat.le_of_ble_eq_true rfl) rfl (Nat.le_of_ble_eq_true rfl) rfl (fun x1 m1 q1 => ?_)
  refine w_aload_n (i := 2) (n' := 1077) dL_law_1076 rfl rfl rfl ?_
  refine w_aload_n (i := 0) (n' := 1078) dL_law_1077 rfl rfl rfl ?_
  refine w_iload_n (i := 3) (n' := 1079) dL_law_1078 rfl rfl rfl ?_
  refine w_iconst (v := 1) (n' := 1080) dL_law_1079 rfl rfl ?_
  refine w_iadd (n' := 1081) dL_law_1080 rfl ?_
  refine w_sld (n := i + 1) (n' := 1082) dL_law_1081 rfl (nI_add i 1) (by omega) hL ?_
  refine v_I (ci := 6) (n' := 1085) dL_law_1082 rfl lRL_149 okX6_seed voX6_seed (rkL ⟨⟨Nat.le_of_ble_eq_true rfl, Nat.le_of_ble_eq_true rfl⟩, Nat.le_of_ble_eq_true rfl, Nat.le_of_ble_eq_true rfl⟩) q1 rfl rfl (Nat.le_of_ble_eq_true rfl) rfl (Nat.le_of_ble_eq_true rfl) rfl (fun x2 m2 q2 => ?_)
  obtain ⟨rfl, hJ⟩ := q2
  exact w_icmp_eq (n' := 1088) (tgt := 1495) dL_law_1085 rfl rfl (fun _ => K _ hJ) (fun q => absurd rfl q)
set_option maxHeartbeats 4000000 in
theorem lc_33 {b L : Nat} {xs : Nat → Int32} {i : Nat} {mem : Mem} (hL : L ≤ 3072) (hi : i + 6 ≤ L) (h : J mem) (K : ∀ m2, J m2 → Wm mL (zL b L xs) 1495 [some (.ref 900), some (.ref 0), some (.ref 50), some (.int (nI i))] [] m2) : Wm mL (zL b L xs) 1090 [some (.ref 900), some (.ref 0), some (.ref 50), some (.int (nI i))] [] mem := by
  refine w_aload_n (i := 1) (n' := 1091) dL_law_1090 rfl rfl rfl ?_
  refine w_aload_n (i := 0) (n' := 1092) dL_law_1091 rfl rfl rfl ?_
  refine w_iload_n (i := 3) (n' := 1093) dL_law_1092 rfl rfl rfl ?_
  refine w_iconst (v := 1) (n' := 1094) dL_law_1093 rfl rfl ?_
  refine w_iadd (n' := 1095) dL_law_1094 rfl ?_
  refine w_sld (n := i + 1) (n' := 1096) dL_law_1095 rfl (nI_add i 1) (by omega) hL ?_
  refine w_aload_n (i := 0) (n' := 1097) dL_law_1096 rfl rfl rfl ?_
  refine w_iload_n (i := 3) (n' := 1098) dL_law_1097 rfl rfl rfl ?_
  refine w_iconst (v := 2) (n' := 1099) dL_law_1098 rfl rfl ?_
  refine w_iadd (n' := 1100) dL_law_1099 rfl ?_
  refine w_sld (n := i + 2) (n' := 1101) dL_law_1100 rfl (nI_add i 2) (by omega) hL ?_
  refine v_I (ci := 5) (n' := 1104) dL_law_1101 rfl lRL_150 okX5_feed voX5_feed (rkL ⟨⟨Nat.le_of_ble_eq_true rfl, Nat.le_of_ble_eq_true rfl⟩, Nat.le_of_ble_eq_true rfl, Nat.le_of_ble_eq_true rfl⟩) (jt_feed h (xs (i + 1)) (xs (i + 2))) rfl rfl (Nat.le_of_ble_eq_true rfl) rfl (Nat.le_of_ble_eq_true rfl) rfl (fun x1 m1 q1 => ?_)
  refine w_aload_n (i := 2) (n' := 1105) dL_law_1104 rfl rfl rfl ?_
  refine w_aload_n (i := 0) (n' := 1106) dL_law_1105 rfl rfl rfl ?_
  refine w_iload_n (i := 3) (n' := 1107) dL_law_1106 rfl rfl rfl ?_
  refine w_iconst (v := 1) (n' := 1108) dL_law_1107 rfl rfl ?_
  refine w_iadd (n' := 1109) dL_law_1108 rfl ?_
  refine w_sld (n := i + 1) (n' := 1110) dL_law_1109 rfl (nI_add i 1) (by omega) hL ?_
  refine w_aload_n (i := 0) (n' := 1111) dL_law_1110 rfl rfl rfl ?_
  refine w_iload_n (i := 3) (n' := 1112) dL_law_1111 rfl rfl rfl ?_
  refine w_iconst (v := 2) (n' := 1113) dL_law_1112 rfl rfl ?_
  refine w_iadd (n' := 1114) dL_law_1113 rfl ?_
  refine w_sld (n := i + 2) (n' := 1115) dL_law_1114 rfl (nI_add i 2) (by omega) hL ?_
  refine v_I (ci := 6) (n' := 1118) dL_law_1115 rfl lRL_153 okX6_feed voX6_feed (rkL ⟨⟨Nat.le_of_ble_eq_true rfl, Nat.le_of_ble_eq_true rfl⟩, Nat.le_of_ble_eq_true rfl, Nat.le_of_ble_eq_true rfl⟩) q1 rfl rfl (Nat.le_of_ble_eq_true rfl) rfl (Nat.le_of_ble_eq_true rfl) rfl (fun x2 m2 q2 => ?_)
  obtain ⟨rfl, hJ⟩ := q2
  exact w_icmp_eq (n' := 1121) (tgt := 1495) dL_law_1118 rfl rfl (fun _ => K _ hJ) (fun q => absurd rfl q)
set_option maxHeartbeats 4000000 in
theorem lc_34 {b L : Nat} {xs : Nat → Int32} {i : Nat} {mem : Mem} (hL : L ≤ 3072) (hi : i + 6 ≤ L) (h : J mem) (K : ∀ m2, J m2 → Wm mL (zL b L xs) 1495 [some (.ref 900), some (.ref 0), some (.ref 50), some (.int (nI i))] [] m2) : Wm mL (zL b L xs) 1123 [some (.ref 900), some (.ref 0), some (.ref 50), some (.int (nI i))] [] mem := by
  refine w_aload_n (i := 1) (n' := 1124) dL_law_1123 rfl rfl rfl ?_
  refine v_I (ci := 5) (n' := 1127) dL_law_1124 rfl lRL_154 okX5_wipe voX5_wipe (rkL ⟨⟨Nat.le_of_ble_eq_true rfl, Nat.le_of_ble_eq_true rfl⟩, Nat.le_of_ble_eq_true rfl, Nat.le_of_ble_eq_true rfl⟩) (jt_wipe h ) rfl rfl (Nat.le_of_ble_eq_true rfl) rfl (Nat.le_of_ble_eq_true rfl) rfl (fun x1 m1 q1 => ?_)
  refine w_aload_n (i := 2) (n' := 1128) dL_law_1127 rfl rfl rfl ?_
  refine v_I (ci := 6) (n' := 1131) dL_law_1128 rfl lRL_157 okX6_wipe voX6_wipe (rkL ⟨⟨Nat.le_of_ble_eq_true rfl, Nat.le_of_ble_eq_true rfl⟩, Nat.le_of_ble_eq_true rfl, Nat.le_of_ble_eq_true rfl⟩) q1 rfl rfl (Nat.le_of_ble_eq_true rfl) rfl (Nat.le_of_ble_eq_true rfl) rfl (fun x2 m2 q2 => ?_)
  obtain ⟨rfl, hJ⟩ := q2
  exact w_icmp_eq (n' := 1134) (tgt := 1495) dL_law_1131 rfl rfl (fun _ => K _ hJ) (fun q => absurd rfl q)
set_option maxHeartbeats 4000000 in
theorem lc_35 {b L : Nat} {xs : Nat → Int32} {i : Nat} {mem : Mem} (hL : L ≤ 3072) (hi : i + 6 ≤ L) (h : J mem) (K : ∀ m2, J m2 → Wm mL (zL b L xs) 1495 [some (.ref 900), some (.ref 0), some (.ref 50), some (.int (nI i))] [] m2) : Wm mL (zL b L xs) 1136 [some (.ref 900), some (.ref 0), some (.ref 50), some (.int (nI i))] [] mem := by
  refine w_aload_n (i := 1) (n' := 1137) dL_law_1136 rfl rfl rfl ?_
  refine v_I (ci := 5) (n' := 1140) dL_law_1137 rfl lRL_158 okX5_text voX5_text (rkL ⟨⟨Nat.le_of_ble_eq_true rfl, Nat.le_of_ble_eq_true rfl⟩, Nat.le_of_ble_eq_true rfl, Nat.le_of_ble_eq_true rfl⟩) (jt_text h ) rfl rfl (Nat.le_of_ble_eq_true rfl) rfl (Nat.le_of_ble_eq_true rfl) rfl (fun x1 m1 q1 => ?_)
  refine w_aload_n (i := 2) (n' := 1141) dL_law_1140 rfl rfl rfl ?_
  refine v_I (ci := 6) (n' := 1144) dL_law_1141 rfl lRL_161 okX6_text voX6_text (rkL ⟨⟨Nat.le_of_ble_eq_true rfl, Nat.le_of_ble_eq_true rfl⟩, Nat.le_of_ble_eq_true rfl, Nat.le_of_ble_eq_true rfl⟩) q1 rfl rfl (Nat.le_of_ble_eq_true rfl) rfl (Nat.le_of_ble_eq_true rfl) rfl (fun x2 m2 q2 => ?_)
  obtain ⟨rfl, hJ⟩ := q2
  exact w_icmp_eq (n' := 1147) (tgt := 1495) dL_law_1144 rfl rfl (fun _ => K _ hJ) (fun q => absurd rfl q)
set_option maxHeartbeats 4000000 in
theorem lc_36 {b L : Nat} {xs : Nat → Int32} {i : Nat} {mem : Mem} (hL : L ≤ 3072) (hi : i + 6 ≤ L) (h : J mem) (K : ∀ m2, J m2 → Wm mL (zL b L xs) 1495 [some (.ref 900), some (.ref 0), some (.ref 50), some (.int (nI i))] [] m2) : Wm mL (zL b L xs) 1149 [some (.ref 900), some (.ref 0), some (.ref 50), some (.int (nI i))] [] mem := by
  refine w_aload_n (i := 1) (n' := 1150) dL_law_1149 rfl rfl rfl ?_
  refine w_aload_n (i := 0) (n' := 1151) dL_law_1150 rfl rfl rfl ?_
  refine w_iload_n (i := 3) (n' := 1152) dL_law_1151 rfl rfl rfl ?_
  refine w_iconst (v := 1) (n' := 1153) dL_law_1152 rfl rfl ?_
  refine w_iadd (n' := 1154) dL_law_1153 rfl ?_
  refine w_sld (n := i + 1) (n' := 1155) dL_law_1154 rfl (nI_add i 1) (by omega) hL ?_
  refine w_aload_n (i := 0) (n' := 1156) dL_law_1155 rfl rfl rfl ?_
  refine w_iload_n (i := 3) (n' := 1157) dL_law_1156 rfl rfl rfl ?_
  refine w_iconst (v := 2) (n' := 1158) dL_law_1157 rfl rfl ?_
  refine w_iadd (n' := 1159) dL_law_1158 rfl ?_
  refine w_sld (n := i + 2) (n' := 1160) dL_law_1159 rfl (nI_add i 2) (by omega) hL ?_
  refine v_I (ci := 5) (n' := 1163) dL_law_1160 rfl lRL_162 okX5_hold voX5_hold (rkL ⟨⟨Nat.le_of_ble_eq_true rfl, Nat.le_of_ble_eq_true rfl⟩, Nat.le_of_ble_eq_true rfl, Nat.le_of_ble_eq_true rfl⟩) (jt_hold h (xs (i + 1)) (xs (i + 2))) rfl rfl (Nat.le_of_ble_eq_true rfl) rfl (Nat.le_of_ble_eq_true rfl) rfl (fun x1 m1 q1 => ?_)
  refine w_aload_n (i := 2) (n' := 1164) dL_law_1163 rfl rfl rfl ?_
  refine w_aload_n (i := 0) (n' := 1165) dL_law_1164 rfl rfl rfl ?_
  refine w_iload_n (i := 3) (n' := 1166) dL_law_1165 rfl rfl rfl ?_
  refine w_iconst (v := 1) (n' := 1167) dL_law_1166 rfl rfl ?_
  refine w_iadd (n' := 1168) dL_law_1167 rfl ?_
  refine w_sld (n := i + 1) (n' := 1169) dL_law_1168 rfl (nI_add i 1) (by omega) hL ?_
  refine w_aload_n (i := 0) (n' := 1170) dL_law_1169 rfl rfl rfl ?_
  refine w_iload_n (i := 3) (n' := 1171) dL_law_1170 rfl rfl rfl ?_
  refine w_iconst (v := 2) (n' := 1172) dL_law_1171 rfl rfl ?_
  refine w_iadd (n' := 1173) dL_law_1172 rfl ?_
  refine w_sld (n := i + 2) (n' := 1174) dL_law_1173 rfl (nI_add i 2) (by omega) hL ?_
  refine v_I (ci := 6) (n' := 1177) dL_law_1174 rfl lRL_165 okX6_hold voX6_hold (rkL ⟨⟨Nat.le_of_ble_eq_true rfl, Nat.le_of_ble_eq_true rfl⟩, Nat.le_of_ble_eq_true rfl, Nat.le_of_ble_eq_true rfl⟩) q1 rfl rfl (Nat.le_of_ble_eq_true rfl) rfl (Nat.le_of_ble_eq_true rfl) rfl (fun x2 m2 q2 => ?_)
  obtain ⟨rfl, hJ⟩ := q2
  exact w_icmp_eq (n' := 1180) (tgt := 1495) dL_law_1177 rfl rfl (fun _ => K _ hJ) (fun q => absurd rfl q)
set_option maxHeartbeats 4000000 in
theorem lc_37 {b L : Nat} {xs : Nat → Int32} {i : Nat} {mem : Mem} (hL : L ≤ 3072) (hi : i + 6 ≤ L) (h : J mem) (K : ∀ m2, J m2 → Wm mL (zL b L xs) 1495 [some (.ref 900), some (.ref 0), some (.ref 50), some (.int (nI i))] [] m2) : Wm mL (zL b L xs) 1182 [some (.ref 900), some (.ref 0), some (.ref 50), some (.int (nI i))] [] mem := by
  refine w_aload_n (i := 1) (n' := 1183) dL_law_1182 rfl rfl rfl ?_
  refine w_aload_n (i := 0) (n' := 1184) dL_law_1183 rfl rfl rfl ?_
  refine w_iload_n (i := 3) (n' := 1185) dL_law_1184 rfl rfl rfl ?_
  refine w_iconst (v := 1) (n' := 1186) dL_law_1185 rfl rfl ?_
  refine w_iadd (n' := 1187) dL_law_1186 rfl ?_
  refine w_sld (n := i + 1) (n' := 1188) dL_law_1187 rfl (nI_add i 1) (by omega) hL ?_
  refine w_aload_n (i := 0) (n' := 1189) dL_law_1188 rfl rfl rfl ?_
  refine w_iload_n (i := 3) (n' := 1190) dL_law_1189 rfl rfl rfl ?_
  refine w_iconst (v := 2) (n' := 1191) dL_law_1190 rfl rfl ?_
  refine w_iadd (n' := 1192) dL_law_1191 rfl ?_
  refine w_sld (n := i + 2) (n' := 1193) dL_law_1192 rfl (nI_add i 2) (by omega) hL ?_
  refine v_I (ci := 5) (n' := 1196) dL_law_1193 rfl lRL_166 okX5_as voX5_as (rkL ⟨⟨Nat.le_of_ble_eq_true rfl, Nat.le_of_ble_eq_true rfl⟩, Nat.le_of_ble_eq_true rfl, Nat.le_of_ble_eq_true rfl⟩) (jt_as h (xs (i + 1)) (xs (i + 2))) rfl rfl (Nat.le_of_ble_eq_true rfl) rfl (Nat.le_of_ble_eq_true rfl) rfl (fun x1 m1 q1 => ?_)
  refine w_aload_n (i := 2) (n' := 1197) dL_law_1196 rfl rfl rfl ?_
  refine w_aload_n (i := 0) (n' := 1198) dL_law_1197 rfl rfl rfl ?_
  refine w_iload_n (i := 3) (n' := 1199) dL_law_1198 rfl rfl rfl ?_
  refine w_iconst (v := 1) (n' := 1200) dL_law_1199 rfl rfl ?_
  refine w_iadd (n' := 1201) dL_law_1200 rfl ?_
  refine w_sld (n := i + 1) (n' := 1202) dL_law_1201 rfl (nI_add i 1) (by omega) hL ?_
  refine w_aload_n (i := 0) (n' := 1203) dL_law_1202 rfl rfl rfl ?_
  refine w_iload_n (i := 3) (n' := 1204) dL_law_1203 rfl rfl rfl ?_
  refine w_iconst (v := 2) (n' := 1205) dL_law_1204 rfl rfl ?_
  refine w_iadd (n' := 1206) dL_law_1205 rfl ?_
  refine w_sld (n := i + 2) (n' := 1207) dL_law_1206 rfl (nI_add i 2) (by omega) hL ?_
  refine v_I (ci := 6) (n' := 1210) dL_law_1207 rfl lRL_169 okX6_as voX6_as (rkL ⟨⟨Nat.le_of_ble_eq_true rfl, Nat.le_of_ble_eq_true rfl⟩, Nat.le_of_ble_eq_true rfl, Nat.le_of_ble_eq_true rfl⟩) q1 rfl rfl (Nat.le_of_ble_eq_true rfl) rfl (Nat.le_of_ble_eq_true rfl) rfl (fun x2 m2 q2 => ?_)
  obtain ⟨rfl, hJ⟩ := q2
  exact w_icmp_eq (n' := 1213) (tgt := 1495) dL_law_1210 rfl rfl (fun _ => K _ hJ) (fun q => absurd rfl q)
set_option maxHeartbeats 4000000 in
theorem lc_38 {b L : Nat} {xs : Nat → Int32} {i : Nat} {mem : Mem} (hL : L ≤ 3072) (hi : i + 6 ≤ L) (h : J mem) (K : ∀ m2, J m2 → Wm mL (zL b L xs) 1495 [some (.ref 900), some (.ref 0), some (.ref 50), some (.int (nI i))] [] m2) : Wm mL (zL b L xs) 1215 [some (.ref 900), some (.ref 0), some (.ref 50), some (.int (nI i))] [] mem := by
  refine w_aload_n (i := 1) (n' := 1216) dL_law_1215 rfl rfl rfl ?_
  refine w_aload_n (i := 0) (n' := 1217) dL_law_1216 rfl rfl rfl ?_
  refine w_iload_n (i := 3) (n' := 1218) dL_law_1217 rfl rfl rfl ?_
  refine w_iconst (v := 1) (n' := 1219) dL_law_1218 rfl rfl ?_
  refine w_iadd (n' := 1220) dL_law_1219 rfl ?_
  refine w_sld (n := i + 1) (n' := 1221) dL_law_1220 rfl (nI_add i 1) (by omega) hL ?_
  refine w_aload_n (i := 0) (n' := 1222) dL_law_1221 rfl rfl rfl ?_
  refine w_iload_n (i := 3) (n' := 1223) dL_law_1222 rfl rfl rfl ?_
  refine w_iconst (v := 2) (n' := 1224) dL_law_1223 rfl rfl ?_
  refine w_iadd (n' := 1225) dL_law_1224 rfl ?_
  refine w_sld (n := i + 2) (n' := 1226) dL_law_1225 rfl (nI_add i 2) (by omega) hL ?_
  refine w_aload_n (i := 0) (n' := 1227) dL_law_1226 rfl rfl rfl ?_
  refine w_iload_n (i := 3) (n' := 1228) dL_law_1227 rfl rfl rfl ?_
  refine w_iconst (v := 3) (n' := 1229) dL_law_1228 rfl rfl ?_
  refine w_iadd (n' := 1230) dL_law_1229 rfl ?_
  refine w_sld (n := i + 3) (n' := 1231) dL_law_1230 rfl (nI_add i 3) (by omega) hL ?_
  refine v_I (ci := 5) (n' := 1234) dL_law_1231 rfl lRL_170 okX5_sheet voX5_sheet (rkL ⟨⟨Nat.le_of_ble_eq_true rfl, Nat.le_of_ble_eq_true rfl⟩, Nat.le_of_ble_eq_true rfl, Nat.le_of_ble_eq_true rfl⟩) (jt_sheet h (xs (i + 1)) (xs (i + 2)) (xs (i + 3))) rfl rfl (Nat.le_of_ble_eq_true rfl) rfl (Nat.le_of_ble_eq_true rfl) rfl (fun x1 m1 q1 => ?_)
  refine w_aload_n (i := 2) (n' := 1235) dL_law_1234 rfl rfl rfl ?_
  refine w_aload_n (i := 0) (n' := 1236) dL_law_1235 rfl rfl rfl ?_
  refine w_iload_n (i := 3) (n' := 1237) dL_law_1236 rfl rfl rfl ?_
  refine w_iconst (v := 1) (n' := 1238) dL_law_1237 rfl rfl ?_
  refine w_iadd (n' := 1239) dL_law_1238 rfl ?_
  refine w_sld (n := i + 1) (n' := 1240) dL_law_1239 rfl (nI_add i 1) (by omega) hL ?_
  refine w_aload_n (i := 0) (n' := 1241) dL_law_1240 rfl rfl rfl ?_
  refine w_iload_n (i := 3) (n' := 1242) dL_law_1241 rfl rfl rfl ?_
  refine w_iconst (v := 2) (n' := 1243) dL_law_1242 rfl rfl ?_
  refine w_iadd (n' := 1244) dL_law_1243 rfl ?_
  refine w_sld (n := i + 2) (n' := 1245) dL_law_1244 rfl (nI_add i 2) (by omega) hL ?_
  refine w_aload_n (i := 0) (n' := 1246) dL_law_1245 rfl rfl rfl ?_
  refine w_iload_n (i := 3) (n' := 1247) dL_law_1246 rfl rfl rfl ?_
  refine w_iconst (v := 3) (n' := 1248) dL_law_1247 rfl rfl ?_
  refine w_iadd (n' := 1249) dL_law_1248 rfl ?_
  refine w_sld (n := i + 3) (n' := 1250) dL_law_1249 rfl (nI_add i 3) (by omega) hL ?_
  refine v_I (ci := 6) (n' := 1253) dL_law_1250 rfl lRL_173 okX6_sheet voX6_sheet (rkL ⟨⟨Nat.le_of_ble_eq_true rfl, Nat.le_of_ble_eq_true rfl⟩, Nat.le_of_ble_eq_true rfl, Nat.le_of_ble_eq_true rfl⟩) q1 rfl rfl (Nat.le_of_ble_eq_true rfl) rfl (Nat.le_of_ble_eq_true rfl) rfl (fun x2 m2 q2 => ?_)
  obtain ⟨rfl, hJ⟩ := q2
  exact w_icmp_eq (n' := 1256) (tgt := 1495) dL_law_1253 rfl rfl (fun _ => K _ hJ) (fun q => absurd rfl q)
set_option maxHeartbeats 4000000 in
theorem lc_39 {b L : Nat} {xs : Nat → Int32} {i : Nat} {mem : Mem} (hL : L ≤ 3072) (hi : i + 6 ≤ L) (h : J mem) (K : ∀ m2, J m2 → Wm mL (zL b L xs) 1495 [some (.ref 900), some (.ref 0), some (.ref 50), some (.int (nI i))] [] m2) : Wm mL (zL b L xs) 1258 [some (.ref 900), some (.ref 0), some (.ref 50), some (.int (nI i))] [] mem := by
  refine w_aload_n (i := 1) (n' := 1259) dL_law_1258 rfl rfl rfl ?_
  refine w_aload_n (i := 0) (n' := 1260) dL_law_1259 rfl rfl rfl ?_
  refine w_iload_n (i := 3) (n' := 1261) dL_law_1260 rfl rfl rfl ?_
  refine w_iconst (v := 1) (n' := 1262) dL_law_1261 rfl rfl ?_
  refine w_iadd (n' := 1263) dL_law_1262 rfl ?_
  refine w_sld (n := i + 1) (n' := 1264) dL_law_1263 rfl (nI_add i 1) (by omega) hL ?_
  refine w_aload_n (i := 0) (n' := 1265) dL_law_1264 rfl rfl rfl ?_
  refine w_iload_n (i := 3) (n' := 1266) dL_law_1265 rfl rfl rfl ?_
  refine w_iconst (v := 2) (n' := 1267) dL_law_1266 rfl rfl ?_
  refine w_iadd (n' := 1268) dL_law_1267 rfl ?_
  refine w_sld (n := i + 2) (n' := 1269) dL_law_1268 rfl (nI_add i 2) (by omega) hL ?_
  refine w_aload_n (i := 0) (n' := 1270) dL_law_1269 rfl rfl rfl ?_
  refine w_iload_n (i := 3) (n' := 1271) dL_law_1270 rfl rfl rfl ?_
  refine w_iconst (v := 3) (n' := 1272) dL_law_1271 rfl rfl ?_
  refine w_iadd (n' := 1273) dL_law_1272 rfl ?_
  refine w_sld (n := i + 3) (n' := 1274) dL_law_1273 rfl (nI_add i 3) (by omega) hL ?_
  refine v_I (ci := 5) (n' := 1277) dL_law_1274 rfl lRL_174 okX5_write voX5_write (rkL ⟨⟨Nat.le_of_ble_eq_true rfl, Nat.le_of_ble_eq_true rfl⟩, Nat.le_of_ble_eq_true rfl, Nat.le_of_ble_eq_true rfl⟩) (jt_write h (xs (i + 1)) (xs (i + 2)) (xs (i + 3))) rfl rfl (Nat.le_of_ble_eq_true rfl) rfl (Nat.le_of_ble_eq_true rfl) rfl (fun x1 m1 q1 => ?_)
  refine w_aload_n (i := 2) (n' := 1278) dL_law_1277 rfl rfl rfl ?_
  refine w_aload_n (i := 0) (n' := 1279) dL_law_1278 rfl rfl rfl ?_
  refine w_iload_n (i := 3) (n' := 1280) dL_law_1279 rfl rfl rfl ?_
  refine w_iconst (v := 1) (n' := 1281) dL_law_1280 rfl rfl ?_
  refine w_iadd (n' := 1282) dL_law_1281 rfl ?_
  refine w_sld (n := i + 1) (n' := 1283) dL_law_1282 rfl (nI_add i 1) (by omega) hL ?_
  refine w_aload_n (i := 0) (n' := 1284) dL_law_1283 rfl rfl rfl ?_
  refine w_iload_n (i := 3) (n' := 1285) dL_law_1284 rfl rfl rfl ?_
  refine w_iconst (v := 2) (n' := 1286) dL_law_1285 rfl rfl ?_
  refine w_iadd (n' := 1287) dL_law_1286 rfl ?_
  refine w_sld (n := i + 2) (n' := 1288) dL_law_1287 rfl (nI_add i 2) (by omega) hL ?_
  refine w_aload_n (i := 0) (n' := 1289) dL_law_1288 rfl rfl rfl ?_
  refine w_iload_n (i := 3) (n' := 1290) dL_law_1289 rfl rfl rfl ?_
  refine w_iconst (v := 3) (n' := 1291) dL_law_1290 rfl rfl ?_
  refine w_iadd (n' := 1292) dL_law_1291 rfl ?_
  refine w_sld (n := i + 3) (n' := 1293) dL_law_1292 rfl (nI_add i 3) (by omega) hL ?_
  refine v_I (ci := 6) (n' := 1296) dL_law_1293 rfl lRL_177 okX6_write voX6_write (rkL ⟨⟨Nat.le_of_ble_eq_true rfl, Nat.le_of_ble_eq_true rfl⟩, Nat.le_of_ble_eq_true rfl, Nat.le_of_ble_eq_true rfl⟩) q1 rfl rfl (Nat.le_of_ble_eq_true rfl) rfl (Nat.le_of_ble_eq_true rfl) rfl (fun x2 m2 q2 => ?_)
  obtain ⟨rfl, hJ⟩ := q2
  exact w_icmp_eq (n' := 1299) (tgt := 1495) dL_law_1296 rfl rfl (fun _ => K _ hJ) (fun q => absurd rfl q)
set_option maxHeartbeats 4000000 in
theorem lc_40 {b L : Nat} {xs : Nat → Int32} {i : Nat} {mem : Mem} (hL : L ≤ 3072) (hi : i + 6 ≤ L) (h : J mem) (K : ∀ m2, J m2 → Wm mL (zL b L xs) 1495 [some (.ref 900), some (.ref 0), some (.ref 50), some (.int (nI i))] [] m2) : Wm mL (zL b L xs) 1301 [some (.ref 900), some (.ref 0), some (.ref 50), some (.int (nI i))] [] mem := by
  refine w_aload_n (i := 1) (n' := 1302) dL_law_1301 rfl rfl rfl ?_
  refine w_aload_n (i := 0) (n' := 1303) dL_law_1302 rfl rfl rfl ?_
  refine w_iload_n (i := 3) (n' := 1304) dL_law_1303 rfl rfl rfl ?_
  refine w_iconst (v := 1) (n' := 1305) dL_law_1304 rfl rfl ?_
  refine w_iadd (n' := 1306) dL_law_1305 rfl ?_
  refine w_sld (n := i + 1) (n' := 1307) dL_law_1306 rfl (nI_add i 1) (by omega) hL ?_
  refine w_aload_n (i := 0) (n' := 1308) dL_law_1307 rfl rfl rfl ?_
  refine w_iload_n (i := 3) (n' := 1309) dL_law_1308 rfl rfl rfl ?_
  refine w_iconst (v := 2) (n' := 1310) dL_law_1309 rfl rfl ?_
  refine w_iadd (n' := 1311) dL_law_1310 rfl ?_
  refine w_sld (n := i + 2) (n' := 1312) dL_law_1311 rfl (nI_add i 2) (by omega) hL ?_
  refine w_aload_n (i := 0) (n' := 1313) dL_law_1312 rfl rfl rfl ?_
  refine w_iload_n (i := 3) (n' := 1314) dL_law_1313 rfl rfl rfl ?_
  refine w_iconst (v := 3) (n' := 1315) dL_law_1314 rfl rfl ?_
  refine w_iadd (n' := 1316) dL_law_1315 rfl ?_
  refine w_sld (n := i + 3) (n' := 1317) dL_law_1316 rfl (nI_add i 3) (by omega) hL ?_
  refine w_aload_n (i := 0) (n' := 1318) dL_law_1317 rfl rfl rfl ?_
  refine w_iload_n (i := 3) (n' := 1319) dL_law_1318 rfl rfl rfl ?_
  refine w_iconst (v := 4) (n' := 1320) dL_law_1319 rfl rfl ?_
  refine w_iadd (n' := 1321) dL_law_1320 rfl ?_
  refine w_sld (n := i + 4) (n' := 1322) dL_law_1321 rfl (nI_add i 4) (by omega) hL ?_
  refine w_aload_n (i := 0) (n' := 1323) dL_law_1322 rfl rfl rfl ?_
  refine w_iload_n (i := 3) (n' := 1324) dL_law_1323 rfl rfl rfl ?_
  refine w_iconst (v := 5) (n' := 1325) dL_law_1324 rfl rfl ?_
  refine w_iadd (n' := 1326) dL_law_1325 rfl ?_
  refine w_sld (n := i + 5) (n' := 1327) dL_law_1326 rfl (nI_add i 5) (by omega) hL ?_
  refine v_I (ci := 5) (n' := 1330) dL_law_1327 rfl lRL_178 okX5_copy voX5_copy (rkL ⟨⟨Nat.le_of_ble_eq_true rfl, Nat.le_of_ble_eq_true rfl⟩, Nat.le_of_ble_eq_true rfl, Nat.le_of_ble_eq_true rfl⟩) (jt_copy h (xs (i + 1)) (xs (i + 2)) (xs (i + 3)) (xs (i + 4)) (xs (i + 5))) rfl rfl (Nat.le_of_ble_eq_true rfl) rfl (Nat.le_of_ble_eq_true rfl) rfl (fun x1 m1 q1 => ?_)
  refine w_aload_n (i := 2) (n' := 1331) dL_law_1330 rfl rfl rfl ?_
  refine w_aload_n (i := 0) (n' := 1332) dL_law_1331 rfl rfl rfl ?_
  refine w_iload_n (i := 3) (n' := 1333) dL_law_1332 rfl rfl rfl ?_
  refine w_iconst (v := 1) (n' := 1334) dL_law_1333 rfl rfl ?_
  refine w_iadd (n' := 1335) dL_law_1334 rfl ?_
  refine w_sld (n := i + 1) (n' := 1336) dL_law_1335 rfl (nI_add i 1) (by omega) hL ?_
  refine w_aload_n (i := 0) (n' := 1337) dL_law_1336 rfl rfl rfl ?_
  refine w_iload_n (i := 3) (n' := 1338) dL_law_1337 rfl rfl rfl ?_
  refine w_iconst (v := 2) (n' := 1339) dL_law_1338 rfl rfl ?_
  refine w_iadd (n' := 1340) dL_law_1339 rfl ?_
  refine w_sld (n := i + 2) (n' := 1341) dL_law_1340 rfl (nI_add i 2) (by omega) hL ?_
  refine w_aload_n (i := 0) (n' := 1342) dL_law_1341 rfl rfl rfl ?_
  refine w_iload_n (i := 3) (n' := 1343) dL_law_1342 rfl rfl rfl ?_
  refine w_iconst (v := 3) (n' := 1344) dL_law_1343 rfl rfl ?_
  refine w_iadd (n' := 1345) dL_law_1344 rfl ?_
  refine w_sld (n := i + 3) (n' := 1346) dL_law_1345 rfl (nI_add i 3) (by omega) hL ?_
  refine w_aload_n (i := 0) (n' := 1347) dL_law_1346 rfl rfl rfl ?_
  refine w_iload_n (i := 3) (n' := 1348) dL_law_1347 rfl rfl rfl ?_
  refine w_iconst (v := 4) (n' := 1349) dL_law_1348 rfl rfl ?_
  refine w_iadd (n' := 1350) dL_law_1349 rfl ?_
  refine w_sld (n := i + 4) (n' := 1351) dL_law_1350 rfl (nI_add i 4) (by omega) hL ?_
  refine w_aload_n (i := 0) (n' := 1352) dL_law_1351 rfl rfl rfl ?_
  refine w_iload_n (i := 3) (n' := 1353) dL_law_1352 rfl rfl rfl ?_
  refine w_iconst (v := 5) (n' := 1354) dL_law_1353 rfl rfl ?_
  refine w_iadd (n' := 1355) dL_law_1354 rfl ?_
  refine w_sld (n := i + 5) (n' := 1356) dL_law_1355 rfl (nI_add i 5) (by omega) hL ?_
  refine v_I (ci := 6) (n' := 1359) dL_law_1356 rfl lRL_182 okX6_copy voX6_copy (rkL ⟨⟨Nat.le_of_ble_eq_true rfl, Nat.le_of_ble_eq_true rfl⟩, Nat.le_of_ble_eq_true rfl, Nat.le_of_ble_eq_true rfl⟩) q1 rfl rfl (Nat.le_of_ble_eq_true rfl) rfl (Nat.le_of_ble_eq_true rfl) rfl (fun x2 m2 q2 => ?_)
  obtain ⟨rfl, hJ⟩ := q2
  exact w_icmp_eq (n' := 1362) (tgt := 1495) dL_law_1359 rfl rfl (fun _ => K _ hJ) (fun q => absurd rfl q)
set_option maxHeartbeats 4000000 in
theorem lc_41 {b L : Nat} {xs : Nat → Int32} {i : Nat} {mem : Mem} (hL : L ≤ 3072) (hi : i + 6 ≤ L) (h : J mem) (K : ∀ m2, J m2 → Wm mL (zL b L xs) 1495 [some (.ref 900), some (.ref 0), some (.ref 50), some (.int (nI i))] [] m2) : Wm mL (zL b L xs) 1364 [some (.ref 900), some (.ref 0), some (.ref 50), some (.int (nI i))] [] mem := by
  refine w_aload_n (i := 1) (n' := 1365) dL_law_1364 rfl rfl rfl ?_
  refine w_aload_n (i := 0) (n' := 1366) dL_law_1365 rfl rfl rfl ?_
  refine w_iload_n (i := 3) (n' := 1367) dL_law_1366 rfl rfl rfl ?_
  refine w_iconst (v := 1) (n' := 1368) dL_law_1367 rfl rfl ?_
  refine w_iadd (n' := 1369) dL_law_1368 rfl ?_
  refine w_sld (n := i + 1) (n' := 1370) dL_law_1369 rfl (nI_add i 1) (by omega) hL ?_
  refine v_I (ci := 5) (n' := 1373) dL_law_1370 rfl lRL_183 okX5_load voX5_load (rkL ⟨⟨Nat.le_of_ble_eq_true rfl, Nat.le_of_ble_eq_true rfl⟩, Nat.le_of_ble_eq_true rfl, Nat.le_of_ble_eq_true rfl⟩) (jt_load h (xs (i + 1))) rfl rfl (Nat.le_of_ble_eq_true rfl) rfl (Nat.le_of_ble_eq_true rfl) rfl (fun x1 m1 q1 => ?_)
  refine w_aload_n (i := 2) (n' := 1374) dL_law_1373 rfl rfl rfl ?_
  refine w_aload_n (i := 0) (n' := 1375) dL_law_1374 rfl rfl rfl ?_
  refine w_iload_n (i := 3) (n' := 1376) dL_law_1375 rfl rfl rfl ?_
  refine w_iconst (v := 1) (n' := 1377) dL_law_1376 rfl rfl ?_
  refine w_iadd (n' := 1378) dL_law_1377 rfl ?_
  refine w_sld (n := i + 1) (n' := 1379) dL_law_1378 rfl (nI_add i 1) (by omega) hL ?_
  refine v_I (ci := 6) (n' := 1382) dL_law_1379 rfl lRL_186 okX6_load voX6_load (rkL ⟨⟨Nat.le_of_ble_eq_true rfl, Nat.le_of_ble_eq_true rfl⟩, Nat.le_of_ble_eq_true rfl, Nat.le_of_ble_eq_true rfl⟩) q1 rfl rfl (Nat.le_of_ble_eq_true rfl) rfl (Nat.le_of_ble_eq_true rfl) rfl (fun x2 m2 q2 => ?_)
  obtain ⟨rfl, hJ⟩ := q2
  exact w_icmp_eq (n' := 1385) (tgt := 1495) dL_law_1382 rfl rfl (fun _ => K _ hJ) (fun q => absurd rfl q)
set_option maxHeartbeats 4000000 in
theorem lc_42 {b L : Nat} {xs : Nat → Int32} {i : Nat} {mem : Mem} (hL : L ≤ 3072) (hi : i + 6 ≤ L) (h : J mem) (K : ∀ m2, J m2 → Wm mL (zL b L xs) 1495 [some (.ref 900), some (.ref 0), some (.ref 50), some (.int (nI i))] [] m2) : Wm mL (zL b L xs) 1387 [some (.ref 900), some (.ref 0), some (.ref 50), some (.int (nI i))] [] mem := by
  refine w_aload_n (i := 1) (n' := 1388) dL_law_1387 rfl rfl rfl ?_
  refine w_aload_n (i := 0) (n' := 1389) dL_law_1388 rfl rfl rfl ?_
  refine w_iload_n (i := 3) (n' := 1390) dL_law_1389 rfl rfl rfl ?_
  refine w_iconst (v := 1) (n' := 1391) dL_law_1390 rfl rfl ?_
  refine w_iadd (n' := 1392) dL_law_1391 rfl ?_
  refine w_sld (n := i + 1) (n' := 1393) dL_law_1392 rfl (nI_add i 1) (by omega) hL ?_
  refine v_I (ci := 5) (n' := 1396) dL_law_1393 rfl lRL_187 okX5_judge voX5_judge (rkL ⟨⟨Nat.le_of_ble_eq_true rfl, Nat.le_of_ble_eq_true rfl⟩, Nat.le_of_ble_eq_true rfl, Nat.le_of_ble_eq_true rfl⟩) (jt_judge h (xs (i + 1))) rfl rfl (Nat.le_of_ble_eq_true rfl) rfl (Nat.le_of_ble_eq_true rfl) rfl (fun x1 m1 q1 => ?_)
  refine w_aload_n (i := 2) (n' := 1397) dL_law_1396 rfl rfl rfl ?_
  refine w_aload_n (i := 0) (n' := 1398) dL_law_1397 rfl rfl rfl ?_
  refine w_iload_n (i := 3) (n' := 1399) dL_law_1398 rfl rfl rfl ?_
  refine w_iconst (v := 1) (n' := 1400) dL_law_1399 rfl rfl ?_
  refine w_iadd (n' := 1401) dL_law_1400 rfl ?_
  refine w_sld (n := i + 1) (n' := 1402) dL_law_1401 rfl (nI_add i 1) (by omega) hL ?_
  refine v_I (ci := 6) (n' := 1405) dL_law_1402 rfl lRL_190 okX6_judge voX6_judge (rkL ⟨⟨Nat.le_of_ble_eq_true rfl, Nat.le_of_ble_eq_true rfl⟩, Nat.le_of_ble_eq_true rfl, Nat.le_of_ble_eq_true rfl⟩) q1 rfl rfl (Nat.le_of_ble_eq_true rfl) rfl (Nat.le_of_ble_eq_true rfl) rfl (fun x2 m2 q2 => ?_)
  obtain ⟨rfl, hJ⟩ := q2
  exact w_icmp_eq (n' := 1408) (tgt := 1495) dL_law_1405 rfl rfl (fun _ => K _ hJ) (fun q => absurd rfl q)
set_option maxHeartbeats 4000000 in
theorem lc_43 {b L : Nat} {xs : Nat → Int32} {i : Nat} {mem : Mem} (hL : L ≤ 3072) (hi : i + 6 ≤ L) (h : J mem) (K : ∀ m2, J m2 → Wm mL (zL b L xs) 1495 [some (.ref 900), some (.ref 0), some (.ref 50), some (.int (nI i))] [] m2) : Wm mL (zL b L xs) 1410 [some (.ref 900), some (.ref 0), some (.ref 50), some (.int (nI i))] [] mem := by
  refine w_aload_n (i := 1) (n' := 1411) dL_law_1410 rfl rfl rfl ?_
  refine v_I (ci := 5) (n' := 1414) dL_law_1411 rfl lRL_191 okX5_image voX5_image (rkL ⟨⟨Nat.le_of_ble_eq_true rfl, Nat.le_of_ble_eq_true rfl⟩, Nat.le_of_ble_eq_true rfl, Nat.le_of_ble_eq_true rfl⟩) (jt_image h ) rfl rfl (Nat.le_of_ble_eq_true rfl) rfl (Nat.le_of_ble_eq_true rfl) rfl (fun x1 m1 q1 => ?_)
  refine w_aload_n (i := 2) (n' := 1415) dL_law_1414 rfl rfl rfl ?_
  refine v_I (ci := 6) (n' := 1418) dL_law_1415 rfl lRL_194 okX6_image voX6_image (rkL ⟨⟨Nat.le_of_ble_eq_true rfl, Nat.le_of_ble_eq_true rfl⟩, Nat.le_of_ble_eq_true rfl, Nat.le_of_ble_eq_true rfl⟩) q1 rfl rfl (Nat.le_of_ble_eq_true rfl) rfl (Nat.le_of_ble_eq_true rfl) rfl (fun x2 m2 q2 => ?_)
  obtain ⟨rfl, hJ⟩ := q2
  exact w_icmp_eq (n' := 1421) (tgt := 1495) dL_law_1418 rfl rfl (fun _ => K _ hJ) (fun q => absurd rfl q)
set_option maxHeartbeats 4000000 in
theorem lc_44 {b L : Nat} {xs : Nat → Int32} {i : Nat} {mem : Mem} (hL : L ≤ 3072) (hi : i + 6 ≤ L) (h : J mem) (K : ∀ m2, J m2 → Wm mL (zL b L xs) 1495 [some (.ref 900), some (.ref 0), some (.ref 50), some (.int (nI i))] [] m2) : Wm mL (zL b L xs) 1423 [some (.ref 900), some (.ref 0), some (.ref 50), some (.int (nI i))] [] mem := by
  refine w_aload_n (i := 1) (n' := 1424) dL_law_1423 rfl rfl rfl ?_
  refine v_I (ci := 5) (n' := 1427) dL_law_1424 rfl lRL_195 okX5_undo voX5_undo (rkL ⟨⟨Nat.le_of_ble_eq_true rfl, Nat.le_of_ble_eq_true rfl⟩, Nat.le_of_ble_eq_true rfl, Nat.le_of_ble_eq_true rfl⟩) (jt_undo h ) rfl rfl (Nat.le_of_ble_eq_true rfl) rfl (Nat.le_of_ble_eq_true rfl) rfl (fun x1 m1 q1 => ?_)
  refine w_aload_n (i := 2) (n' := 1428) dL_law_1427 rfl rfl rfl ?_
  refine v_I (ci := 6) (n' := 1431) dL_law_1428 rfl lRL_198 okX6_undo voX6_undo (rkL ⟨⟨Nat.le_of_ble_eq_true rfl, Nat.le_of_ble_eq_true rfl⟩, Nat.le_of_ble_eq_true rfl, Nat.le_of_ble_eq_true rfl⟩) q1 rfl rfl (Nat.le_of_ble_eq_true rfl) rfl (Nat.le_of_ble_eq_true rfl) rfl (fun x2 m2 q2 => ?_)
  obtain ⟨rfl, hJ⟩ := q2
  exact w_icmp_eq (n' := 1434) (tgt := 1495) dL_law_1431 rfl rfl (fun _ => K _ hJ) (fun q => absurd rfl q)
set_option maxHeartbeats 4000000 in
theorem lc_45 {b L : Nat} {xs : Nat → Int32} {i : Nat} {mem : Mem} (hL : L ≤ 3072) (hi : i + 6 ≤ L) (h : J mem) (K : ∀ m2, J m2 → Wm mL (zL b L xs) 1495 [some (.ref 900), some (.ref 0), some (.ref 50), some (.int (nI i))] [] m2) : Wm mL (zL b L xs) 1436 [some (.ref 900), some (.ref 0), some (.ref 50), some (.int (nI i))] [] mem := by
  refine w_aload_n (i := 1) (n' := 1437) dL_law_1436 rfl rfl rfl ?_
  refine v_I (ci := 5) (n' := 1440) dL_law_1437 rfl lRL_199 okX5_tear voX5_tear (rkL ⟨⟨Nat.le_of_ble_eq_true rfl, Nat.le_of_ble_eq_true rfl⟩, Nat.le_of_ble_eq_true rfl, Nat.le_of_ble_eq_true rfl⟩) (jt_tear h ) rfl rfl (Nat.le_of_ble_eq_true rfl) rfl (Nat.le_of_ble_eq_true rfl) rfl (fun x1 m1 q1 => ?_)
  refine w_aload_n (i := 2) (n' := 1441) dL_law_1440 rfl rfl rfl ?_
  refine v_I (ci := 6) (n' := 1444) dL_law_1441 rfl lRL_202 okX6_tear voX6_tear (rkL ⟨⟨Nat.le_of_ble_eq_true rfl, Nat.le_of_ble_eq_true rfl⟩, Nat.le_of_ble_eq_true rfl, Nat.le_of_ble_eq_true rfl⟩) q1 rfl rfl (Nat.le_of_ble_eq_true rfl) rfl (Nat.le_of_ble_eq_true rfl) rfl (fun x2 m2 q2 => ?_)
  obtain ⟨rfl, hJ⟩ := q2
  exact w_icmp_eq (n' := 1447) (tgt := 1495) dL_law_1444 rfl rfl (fun _ => K _ hJ) (fun q => absurd rfl q)
set_option maxHeartbeats 4000000 in
theorem lc_46 {b L : Nat} {xs : Nat → Int32} {i : Nat} {mem : Mem} (hL : L ≤ 3072) (hi : i + 6 ≤ L) (h : J mem) (K : ∀ m2, J m2 → Wm mL (zL b L xs) 1495 [some (.ref 900), some (.ref 0), some (.ref 50), some (.int (nI i))] [] m2) : Wm mL (zL b L xs) 1449 [some (.ref 900), some (.ref 0), some (.ref 50), some (.int (nI i))] [] mem := by
  refine w_aload_n (i := 1) (n' := 1450) dL_law_1449 rfl rfl rfl ?_
  refine w_aload_n (i := 0) (n' := 1451) dL_law_1450 rfl rfl rfl ?_
  refine w_iload_n (i := 3) (n' := 1452) dL_law_1451 rfl rfl rfl ?_
  refine w_iconst (v := 1) (n' := 1453) dL_law_1452 rfl rfl ?_
  refine w_iadd (n' := 1454) dL_law_1453 rfl ?_
  refine w_sld (n := i + 1) (n' := 1455) dL_law_1454 rfl (nI_add i 1) (by omega) hL ?_
  refine v_I (ci := 5) (n' := 1458) dL_law_1455 rfl lRL_203 okX5_count voX5_count (rkL ⟨⟨Nat.le_of_ble_eq_true rfl, Nat.le_of_ble_eq_true rfl⟩, Nat.le_of_ble_eq_true rfl, Nat.le_of_ble_eq_true rfl⟩) (jt_count h (xs (i + 1))) rfl rfl (Nat.le_of_ble_eq_true rfl) rfl (Nat.le_of_ble_eq_true rfl) rfl (fun x1 m1 q1 => ?_)
  refine w_aload_n (i := 2) (n' := 1459) dL_law_1458 rfl rfl rfl ?_
  refine w_aload_n (i := 0) (n' := 1460) dL_law_1459 rfl rfl rfl ?_
  refine w_iload_n (i := 3) (n' := 1461) dL_law_1460 rfl rfl rfl ?_
  refine w_iconst (v := 1) (n' := 1462) dL_law_1461 rfl rfl ?_
  refine w_iadd (n' := 1463) dL_law_1462 rfl ?_
  refine w_sld (n := i + 1) (n' := 1464) dL_law_1463 rfl (nI_add i 1) (by omega) hL ?_
  refine v_I (ci := 6) (n' := 1467) dL_law_1464 rfl lRL_206 okX6_count voX6_count (rkL ⟨⟨Nat.le_of_ble_eq_true rfl, Nat.le_of_ble_eq_true rfl⟩, Nat.le_of_ble_eq_true rfl, Nat.le_of_ble_eq_true rfl⟩) q1 rfl rfl (Nat.le_of_ble_eq_true rfl) rfl (Nat.le_of_ble_eq_true rfl) rfl (fun x2 m2 q2 => ?_)
  obtain ⟨rfl, hJ⟩ := q2
  exact w_icmp_eq (n' := 1470) (tgt := 1495) dL_law_1467 rfl rfl (fun _ => K _ hJ) (fun q => absurd rfl q)
set_option maxHeartbeats 4000000 in
theorem lc_47 {b L : Nat} {xs : Nat → Int32} {i : Nat} {mem : Mem} (hL : L ≤ 3072) (hi : i + 6 ≤ L) (h : J mem) (K : ∀ m2, J m2 → Wm mL (zL b L xs) 1495 [some (.ref 900), some (.ref 0), some (.ref 50), some (.int (nI i))] [] m2) : Wm mL (zL b L xs) 1472 [some (.ref 900), some (.ref 0), some (.ref 50), some (.int (nI i))] [] mem := by
  refine w_aload_n (i := 1) (n' := 1473) dL_law_1472 rfl rfl rfl ?_
  refine w_aload_n (i := 0) (n' := 1474) dL_law_1473 rfl rfl rfl ?_
  refine w_iload_n (i := 3) (n' := 1475) dL_law_1474 rfl rfl rfl ?_
  refine w_iconst (v := 1) (n' := 1476) dL_law_1475 rfl rfl ?_
  refine w_iadd (n' := 1477) dL_law_1476 rfl ?_
  refine w_sld (n := i + 1) (n' := 1478) dL_law_1477 rfl (nI_add i 1) (by omega) hL ?_
  refine v_I (ci := 5) (n' := 1481) dL_law_1478 rfl lRL_207 okX5_status voX5_status (rkL ⟨⟨Nat.le_of_ble_eq_true rfl, Nat.le_of_ble_eq_true rfl⟩, Nat.le_of_ble_eq_true rfl, Nat.le_of_ble_eq_true rfl⟩) (jt_status h (xs (i + 1))) rfl rfl (Nat.le_of_ble_eq_true rfl) rfl (Nat.le_of_ble_eq_true rfl) rfl (fun x1 m1 q1 => ?_)
  refine w_aload_n (i := 2) (n' := 1482) dL_law_1481 rfl rfl rfl ?_
  refine w_aload_n (i := 0) (n' := 1483) dL_law_1482 rfl rfl rfl ?_
  refine w_iload_n (i := 3) (n' := 1484) dL_law_1483 rfl rfl rfl ?_
  refine w_iconst (v := 1) (n' := 1485) dL_law_1484 rfl rfl ?_
  refine w_iadd (n' := 1486) dL_law_1485 rfl ?_
  refine w_sld (n := i + 1) (n' := 1487) dL_law_1486 rfl (nI_add i 1) (by omega) hL ?_
  refine v_I (ci := 6) (n' := 1490) dL_law_1487 rfl lRL_210 okX6_status voX6_status (rkL ⟨⟨Nat.le_of_ble_eq_true rfl, Nat.le_of_ble_eq_true rfl⟩, Nat.le_of_ble_eq_true rfl, Nat.le_of_ble_eq_true rfl⟩) q1 rfl rfl (Nat.le_of_ble_eq_true rfl) rfl (Nat.le_of_ble_eq_true rfl) rfl (fun x2 m2 q2 => ?_)
  obtain ⟨rfl, hJ⟩ := q2
  exact w_icmp_eq (n' := 1493) (tgt := 1495) dL_law_1490 rfl rfl (fun _ => K _ hJ) (fun q => absurd rfl q)
theorem lt6 {L i : Nat} (hL : L ≤ 3072) (h : L < i + 6) (hi : i ≤ L + 5) : nI L - 6 < nI i := by
  rw [Int32.lt_iff_toInt_lt, sub_t (by rw [nI_toInt (by omega)]; omega) (by rw [nI_toInt (by omega)]; omega) (by decide) (by decide), nI_toInt (by omega), nI_toInt (by omega), show (6 : Int32).toInt = 6 from by decide]
  omega
