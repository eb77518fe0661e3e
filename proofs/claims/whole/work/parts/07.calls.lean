/-! calls -/
def MOK (M : MT) (n : Nat) : Prop := Cond.code M.1 M.2.1 M.2.2.1 M.2.2.2.1 ∈ tb ∧ Cond.initialized M.1.cls ∈ tb ∧ (M.1.cls ≠ "java/lang/invoke/MethodHandle" ∧ M.1.cls ≠ "java/lang/invoke/VarHandle" ∧ (parseMethodDescriptor M.1.desc).map (fun d => d.parameters.length) = some n)
def MLk (own : String) (idx : Nat) (M : MT) : Prop := Cond.methodLink own idx M.1 ∈ tb ∨ Cond.methodLinkNest own idx M.1 "SheafVotes" ∈ nests
def Rok (Z : ZT) (M : MT) : Prop := (M.2.2.2.2 + 1 ≤ Z.1.frames ∧ 8 + (M.2.2.1 + 11) + 40 * M.2.2.2.2 ≤ Z.1.locals) ∧ Z.2.1 ≤ Z.1.cells ∧ Z.2.2.1 ≤ Z.1.slots
theorem good_tb {M : MT} {n : Nat} (h : MOK M n) : GoodIn tb (wsM M) := by
  intro w hw
  rcases List.mem_cons.mp hw with e | e
  · subst e
    exact ⟨h.1, good_of_word (List.mem_filter.mp h.1).2⟩
  · exact ⟨e, good_of_word (List.mem_filter.mp e).2⟩
theorem blind_Inv {g : GH} {mem : Mem} {av : List Value} : FrameBlind (va_Pc av (fun U => Inv g mem U)) := by
  intro a U f mk h
  obtain ⟨h1, h2, h3, h4⟩ := h
  exact ⟨h1, ⟨va_K.moved (u := U) (U := U.calling f mk a) (Vm.Alike.refl U.vm) h2.1, h2.2⟩, h3, h4.same rfl rfl⟩
section CALLS
variable {p : Program} {l : Launch} {e : Env} {R : Room} {s : State} {m : MethodId} {args : Array Value} {below : List Frame} {meth : Method} {c : Code} {H : Heap} {locs : List Loc} {cells slots : Nat} {Q : State → Prop}
theorem call_fin {g : GH} {Post : Option Value → Mem → Prop} {pc : Nat} {la : Array Slot} {st0 rest : List Value} {a : Array Value} (hr : va_Run p l e R s m args below meth c H locs cells slots 0 0 (F0 m pc la st0) rest (Qm g Post a) (Ag g)) (hS : va_S (Ag g) s.heap H locs)
    (kk : ∀ (r : Option Value) (mem' : Mem) (H1 : Heap) (locs1 : List Loc), Post r mem' → va_P g.2.1 vwCl (cellsM g mem') H1 → va_S (Ag g) s.heap H1 locs1 → W p l e R s m args below meth c H1 locs1 cells slots Q (F0 m (pc + 3) la ((r.map (rv g)).toList ++ rest))) : W p l e R s m args below meth c H locs cells slots Q (F0 m pc la st0) := by
  intro T hT X
  obtain ⟨v, st₀, t, T', L, h0, X', hL, e1, e2, ⟨⟨r, mem', hv, hp, hb⟩, hz, hk⟩, st⟩ := hr T hT X
  cases hv
  rw [h0] at hz hk
  obtain ⟨t2, a1, b1⟩ := kk r mem' T'.heap (locs ++ L) hp (by rw [e1]; exact hb)
    ⟨Nat.le_trans hS.1 (by rw [e1]; exact hz), fun q h1 h2 => by rw [e1, hk q (Nat.lt_of_lt_of_le h1 hS.1) h2]; exact hS.2.1 q h1 h2, fun q hq => by
      rcases List.mem_append.mp hq with h | h
      · exact hS.2.2 q h
      · exact hL q h⟩ T' rfl X'
  exact ⟨t2, st t2 a1, b1⟩
theorem pre_Inv {M : MT} {Z : ZT} {g : GH} {mem : Mem} {av : List Value} (C : Ctx M Z g p s m args meth c) (hP : va_P g.2.1 vwCl (cellsM g mem) H) (hS : va_S (Ag g) s.heap H locs) : ∀ U : State, U.heap = H → s.WarmedH U.vm → va_Pc av (fun U => Inv g mem U) av.toArray U := by
  intro U hU hW
  exact ⟨rfl, ⟨va_K.moved hW.alike C.2.2.2.2.2.2.2.1.1, C.2.2.2.2.2.2.2.1.2⟩, by rw [hU]; exact hP, C.2.2.2.2.2.2.2.2.1.go hS hU hW⟩
end CALLS
section CALLM
variable {M M' : MT} {Z : ZT} {pc n' idx n : Nat} {ls : List (Option Value)} {st rest as : List Value} {mem : Mem} {Post : Option Value → Mem → Prop}
theorem cat_map (g : GH) (l : List Value) : ((l.map (rv g)).map fun v => v.category).sum = (l.map fun v => v.category).sum := by
  rw [List.map_map]
  congr 1
  apply List.map_congr_left
  intro v _
  exact rv_cat g v
theorem w_callS (hd : decode M.2.1 pc = .ok (.invokestatic idx, 3)) (hn : pc + 3 = n') (hL : MLk M.1.cls idx M') (hM : MOK M' n) (hst : Cond.static M'.1 ∈ tb) (hR : Rok Z M') (hlen : as.length = n) (hcat : (rest.map fun v => v.category).sum ≤ 8) (hsk : st = as.reverse ++ rest) (hC : Cn M' as mem Post) (k : ∀ (r : Option Value) (mem' : Mem), Post r mem' → Wm M Z n' ls (r.toList ++ rest) mem') : Wm M Z pc ls st mem := by
  subst hn
  intro g p l e s m args below meth c H locs la C hP hS hl
  have hcs := C.2.2.2.2.2.1
  have fin := fun (hr : va_Run p l e Z.1 s m args below meth c H locs Z.2.1 Z.2.2.1 0 0 (F0 m pc la (st.map (rv g))) (rest.map (rv g)) (Qm g Post (as.map (rv g)).toArray) (Ag g)) => call_fin (Q := Z.2.2.2.2 g s args below) hr hS (fun r mem' H1 locs1 hp hP1 hS1 => by
    have := k r mem' hp g p l e s m args below meth c H1 locs1 la C hP1 hS1 hl
    rw [List.map_append] at this
    cases r <;> exact this)
  refine fin ?_
  rcases hL with hL | hL
  · exact va_runS (As := as.map (rv g)) (rest := rest.map (rv g)) ⟨C.1, C.2.1, C.2.2.2.1, C.2.2.2.2.1, hcs⟩ (hC l g) ⟨callB_of n hcs (good_tb hM) rfl rfl rfl (hcs _ hM.2.1) (hcs _ hL) hM.2.2 hR.1, hcs _ hst⟩ ⟨blind_Inv, pre_Inv C hP hS⟩ rfl (by rw [List.length_map]; exact hlen) hl.1 (by rw [hsk, List.map_append, List.map_reverse]) (lv_room (by rw [cat_map]; exact hcat)) hd hR.2
  · exact va_runSN (As := as.map (rv g)) (rest := rest.map (rv g)) (Ts := tb) ⟨C.1, C.2.1, C.2.2.2.1, C.2.2.2.2.1, hcs⟩ (hC l g) ⟨va_cnB n hcs (good_tb hM) rfl rfl rfl (C.2.2.2.2.2.2.2.2.1.1 _ hL) (hcs _ hM.2.1) hM.2.2 hR.1, hcs _ hst, trivial⟩ ⟨blind_Inv, pre_Inv C hP hS⟩ rfl (by rw [List.length_map]; exact hlen) hl.1 (by rw [hsk, List.map_append, List.map_reverse]) (lv_room (by rw [cat_map]; exact hcat)) hd hR.2
def VOK (M : MT) : Prop := Cond.instanceMethod M.1 ∈ tb ∧ Cond.selects M.1.cls M.1 M.1 ∈ tb
theorem w_callVr {b : Nat} (hrecv : ∀ (g : GH) (s : State) (H : Heap) (locs : List Loc), Gd g s → Stt g s s.heap → va_P g.2.1 vwCl (cellsM g mem) H → va_S (Ag g) s.heap H locs → ∃ cellB : Cell, H[g.1 b]? = some cellB ∧ cellB.vm.isStatics = false ∧ s.vm.findClass M'.1.cls = some cellB.cls) (hd : decode M.2.1 pc = .ok (.invokevirtual idx, 3)) (hn : pc + 3 = n') (hL : Cond.methodLink M.1.cls idx M'.1 ∈ tb) (hM : MOK M' n) (hV : VOK M') (hR : Rok Z M') (hlen : as.length = n) (hcat : (rest.map fun v => v.category).sum ≤ 8) (hsk : st = as.reverse ++ .ref b :: rest) (hC : Cn M' (.ref b :: as) mem Post) (k : ∀ (r : Option Value) (mem' : Mem), Post r mem' → Wm M Z n' ls (r.toList ++ rest) mem') : Wm M Z pc ls st mem := by
  subst hn
  intro g p l e s m args below meth c H locs la C hP hS hl
  have hcs := C.2.2.2.2.2.1
  have fin := fun (hr : va_Run p l e Z.1 s m args below meth c H locs Z.2.1 Z.2.2.1 0 0 (F0 m pc la (st.map (rv g))) (rest.map (rv g)) (Qm g Post (Value.ref (g.1 b) :: as.map (rv g)).toArray) (Ag g)) => call_fin (Q := Z.2.2.2.2 g s args below) hr hS (fun r mem' H1 locs1 hp hP1 hS1 => by
    have := k r mem' hp g p l e s m args below meth c H1 locs1 la C hP1 hS1 hl
    rw [List.map_append] at this
    cases r <;> exact this)
  refine fin ?_
  exact va_runV (C := M'.1.cls) (b := g.1 b) (As := as.map (rv g)) (rest := rest.map (rv g)) ⟨C.1, C.2.1, C.2.2.2.1, C.2.2.2.2.1, hcs⟩ (hC l g) ⟨callB_of n hcs (good_tb hM) rfl rfl rfl (hcs _ hM.2.1) (hcs _ hL) hM.2.2 hR.1, hcs _ hV.1, hcs _ hV.2⟩ ⟨blind_Inv, hrecv g s H locs C.2.2.2.2.2.2.2.1 C.2.2.2.2.2.2.2.2.1 hP hS, pre_Inv (av := Value.ref (g.1 b) :: as.map (rv g)) C hP hS⟩ rfl (by rw [List.length_map]; exact hlen) hl.1 (by rw [hsk, List.map_append, List.map_reverse]; rfl) (lv_room (by rw [cat_map]; exact hcat)) hd hR.2
theorem recv_obj {b ci : Nat} {C : String} (hk : kd b = ci) (hci : ci < 7) (hc : (clC ci).1 = C) : ∀ (g : GH) (s : State) (H : Heap) (locs : List Loc), Gd g s → Stt g s s.heap → va_P g.2.1 vwCl (cellsM g mem) H → va_S (Ag g) s.heap H locs → ∃ cellB : Cell, H[g.1 b]? = some cellB ∧ cellB.vm.isStatics = false ∧ s.vm.findClass C = some cellB.cls := by
  intro g s H locs hG hT hP hS
  subst hc
  exact va_recv hG.1 hP (cl_at hci) (he_obj hk hci)
theorem recv_str {i : Nat} (hi : i < 12) : ∀ (g : GH) (s : State) (H : Heap) (locs : List Loc), Gd g s → Stt g s s.heap → va_P g.2.1 vwCl (cellsM g mem) H → va_S (Ag g) s.heap H locs → ∃ cellB : Cell, H[g.1 (200 + i)]? = some cellB ∧ cellB.vm.isStatics = false ∧ s.vm.findClass "java/lang/String" = some cellB.cls := by
  intro g s H locs hG hT hP hS
  exact vk_recv (adK := fun i => g.1 (200 + i)) hT.2.2.2.1 hi hS
theorem w_callV {b ci : Nat} (hd : decode M.2.1 pc = .ok (.invokevirtual idx, 3)) (hn : pc + 3 = n') (hL : Cond.methodLink M.1.cls idx M'.1 ∈ tb) (hM : MOK M' n) (hV : VOK M') (hR : Rok Z M') (hlen : as.length = n) (hcat : (rest.map fun v => v.category).sum ≤ 8) (hk : kd b = ci) (hci : ci < 7) (hc : (clC ci).1 = M'.1.cls) (hsk : st = as.reverse ++ .ref b :: rest) (hC : Cn M' (.ref b :: as) mem Post) (k : ∀ (r : Option Value) (mem' : Mem), Post r mem' → Wm M Z n' ls (r.toList ++ rest) mem') : Wm M Z pc ls st mem :=
  w_callVr (recv_obj hk hci hc) hd hn hL hM hV hR hlen hcat hsk hC k
theorem w_callT {i : Nat} (hi : i < 12) (hc : M'.1.cls = "java/lang/String") (hd : decode M.2.1 pc = .ok (.invokevirtual idx, 3)) (hn : pc + 3 = n') (hL : Cond.methodLink M.1.cls idx M'.1 ∈ tb) (hM : MOK M' n) (hV : VOK M') (hR : Rok Z M') (hlen : as.length = n) (hcat : (rest.map fun v => v.category).sum ≤ 8) (hsk : st = as.reverse ++ .ref (200 + i) :: rest) (hC : Cn M' (.ref (200 + i) :: as) mem Post) (k : ∀ (r : Option Value) (mem' : Mem), Post r mem' → Wm M Z n' ls (r.toList ++ rest) mem') : Wm M Z pc ls st mem :=
  w_callVr (by rw [hc]; exact recv_str hi) hd hn hL hM hV hR hlen hcat hsk hC k
/-- a contract's end may be weakened -/
theorem Cn.mono {Post2 : Option Value → Mem → Prop} (h : Cn M as mem Post) (hp : ∀ r m, Post r m → Post2 r m) : Cn M as mem Post2 := by
  intro l g p e ha hc hk s m args below hf happ hP hT
  obtain ⟨t, o, h1, h2, h3, ⟨⟨⟨r, mem', q1, q2, q3⟩, q4⟩, q5⟩⟩ := h l g p e ha hc hk s m args below hf happ hP hT
  exact ⟨t, o, h1, h2, h3, ⟨⟨⟨r, mem', q1, hp _ _ q2, q3⟩, q4⟩, q5⟩⟩
end CALLM
section MATH
variable {M : MT} {Z : ZT} {pc n' idx : Nat} {ls : List (Option Value)} {st : List Value} {mem : Mem}
def maxI (x y : Int32) : Int32 := if x < y then y else x
def minI (x y : Int32) : Int32 := if y < x then y else x
def absI (x : Int32) : Int32 := if 0 ≤ x then x else 0 - x
def Rmath (Z : ZT) (st : List Value) : Prop := 1 ≤ Z.1.frames ∧ (st.map fun v => v.category).sum + 13 ≤ Z.1.locals ∧ Z.2.1 ≤ Z.1.cells ∧ Z.2.2.1 ≤ Z.1.slots
theorem mm_st : Cond.static Lib.Math.max.name ∈ tb := by decide +kernel
theorem mm_in : Cond.initialized "java/lang/Math" ∈ tb := by decide +kernel
theorem mm_co : Cond.code Lib.Math.max.name Lib.Math.max.code 2 (some .int) ∈ tb := by decide +kernel
theorem mn_st : Cond.static Lib.Math.min.name ∈ tb := by decide +kernel
theorem mn_co : Cond.code Lib.Math.min.name Lib.Math.min.code 2 (some .int) ∈ tb := by decide +kernel
theorem mb_st : Cond.static Lib.Math.abs.name ∈ tb := by decide +kernel
theorem mb_co : Cond.code Lib.Math.abs.name Lib.Math.abs.code 1 (some .int) ∈ tb := by decide +kernel
theorem w_max {x y : Int32} (hd : decode M.2.1 pc = .ok (.invokestatic idx, 3)) (hn : pc + 3 = n') (hL : Cond.methodLink M.1.cls idx Lib.Math.max.name ∈ tb) (hR : Rmath Z st) (k : Wm M Z n' ls (.int (maxI x y) :: st) mem) : Wm M Z pc ls (.int y :: .int x :: st) mem := by
  subst hn
  intro g p l e s m args below meth c H locs la C hP hS hl
  exact va_mmax C.1 C.2.1 (C.2.2.2.1.trans hl.1.symm) C.2.2.2.2.1 (tb_at C hL) (tb_at C mm_st) (tb_at C mm_in) (tb_at C mm_co) hR.1 (by rw [cat_map]; exact hR.2.1) hR.2.2.1 hR.2.2.2 hd (k g p l e s m args below meth c H locs la C hP hS hl)
theorem w_min {x y : Int32} (hd : decode M.2.1 pc = .ok (.invokestatic idx, 3)) (hn : pc + 3 = n') (hL : Cond.methodLink M.1.cls idx Lib.Math.min.name ∈ tb) (hR : Rmath Z st) (k : Wm M Z n' ls (.int (minI x y) :: st) mem) : Wm M Z pc ls (.int y :: .int x :: st) mem := by
  subst hn
  intro g p l e s m args below meth c H locs la C hP hS hl
  exact va_mmin C.1 C.2.1 (C.2.2.2.1.trans hl.1.symm) C.2.2.2.2.1 (tb_at C hL) (tb_at C mn_st) (tb_at C mm_in) (tb_at C mn_co) hR.1 (by rw [cat_map]; exact hR.2.1) hR.2.2.1 hR.2.2.2 hd (k g p l e s m args below meth c H locs la C hP hS hl)
theorem w_abs {x : Int32} (hd : decode M.2.1 pc = .ok (.invokestatic idx, 3)) (hn : pc + 3 = n') (hL : Cond.methodLink M.1.cls idx Lib.Math.abs.name ∈ tb) (hR : Rmath Z st) (k : Wm M Z n' ls (.int (absI x) :: st) mem) : Wm M Z pc ls (.int x :: st) mem := by
  subst hn
  intro g p l e s m args below meth c H locs la C hP hS hl
  exact va_mabs C.1 C.2.1 (C.2.2.2.1.trans hl.1.symm) C.2.2.2.2.1 (tb_at C hL) (tb_at C mb_st) (tb_at C mm_in) (tb_at C mb_co) hR.1 (by rw [cat_map]; exact hR.2.1) hR.2.2.1 hR.2.2.2 hd (k g p l e s m args below meth c H locs la C hP hS hl)
theorem ac_na : Cond.native arraycopyName ∈ lw_tbl := by decide +kernel
theorem ac_na2 : Cond.native arraycopyName ∈ tb := by decide +kernel
theorem ac_st : Cond.static arraycopyName ∈ tb := by decide +kernel
theorem ac_in : Cond.initialized "java/lang/System" ∈ tb := by decide +kernel
def Rcopy (Z : ZT) (st : List Value) : Prop := 1 ≤ Z.1.frames ∧ (st.map fun v => v.category).sum + (nativeFrameWords "java/lang/System" "arraycopy" 5 + 11) ≤ Z.1.locals
theorem w_copy {k0 k1 a b n : Nat} {sp dp q : Int32} (hd : decode M.2.1 pc = .ok (.invokestatic idx, 3)) (hn : pc + 3 = n') (hL : Cond.methodLink M.1.cls idx arraycopyName ∈ tb) (hR : Rcopy Z st) (h0 : kd k0 = 10) (h1 : kd k1 = 10) (hsp : sp = nI a) (hdp : dp = nI b) (hq : q = nI n) (ha : a + n ≤ al k0) (hb : b + n ≤ al k1) (k : Wm M Z n' ls st (upR mem k1 (va_cpy (mem k0) (mem k1) a b n))) : Wm M Z pc ls (.int q :: .int dp :: .ref k1 :: .int sp :: .ref k0 :: st) mem := by
  subst hn
  subst hsp
  subst hdp
  subst hq
  intro g p l e s m args below meth c H locs la C hP hS hl
  have z0 := al_le k0
  have z1 := al_le k1
  refine va_copyi (D := g.2.1) (ty := .int) C.1 C.2.1 (C.2.2.2.1.trans hl.1.symm) C.2.2.2.2.1 (tb_at C hL) (tb_at C ac_na2) (tb_at C ac_st) (tb_at C ac_in) C.2.2.2.2.2.2.2.1.1 hP (cells_D C.2.2.2.2.2.2.2.1.2) hS k0 k1 0 0 (he_int h0) (he_int h1) rfl rfl rfl (nI_pos (by omega)) (nI_pos (by omega)) (nI_pos (by omega)) (by rw [nI_clamp (by omega), nI_clamp (by omega)]; exact ha) (by rw [nI_clamp (by omega), nI_clamp (by omega)]; exact hb) (fun i _ => rfl) hR.1 (by rw [cat_map]; exact hR.2) hd (fun H1 locs1 hP1 hD1 hS1 => ?_)
  rw [nI_clamp (show a < 2 ^ 31 by omega), nI_clamp (show b < 2 ^ 31 by omega), nI_clamp (show n < 2 ^ 31 by omega), cells_set (mem' := upR mem k1 (va_cpy (mem k0) (mem k1) a b n)) (by simp only [upR, if_true]; rw [ent_int h1]) (fun q hq => by simp only [upR, if_neg hq])] at hP1
  exact k g p l e s m args below meth c H1 locs1 la C hP1 hS1 hl
end MATH
