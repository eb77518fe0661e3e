/-! what is given of statics and texts; the two judgements -/
def stN : Nat → String
  | 0 => "LEAST_OF"
  | 1 => "MOST_OF"
  | 2 => "KIND_ABOVE"
  | _ => "REAPED_ALIKE_ABOVE"
def stL : Nat → List Int32
  | 0 => [0, 0, 1, -9, 0]
  | 1 => [6, 999, 20, 9, 9999]
  | 2 => [-1, 0, 0, 2, 3, 0, 1]
  | _ => [20, 5, 0]
def strK : List Nat := [103, 105, 107, 109, 111, 113, 115, 93, 101, 117, 119, 121]
def strT : List String := ["farm", "lame", "proud", "sly", "deep", "machine", "old", "hands", "thinks", "wet", "mice", "rain"]
def strN : List Nat := [4, 4, 5, 3, 4, 7, 3, 5, 6, 3, 4, 4]
def strB : List (List Int32) := [[102, 97, 114, 109], [108, 97, 109, 101], [112, 114, 111, 117, 100], [115, 108, 121], [100, 101, 101, 112], [109, 97, 99, 104, 105, 110, 101], [111, 108, 100], [104, 97, 110, 100, 115], [116, 104, 105, 110, 107, 115], [119, 101, 116], [109, 105, 99, 101], [114, 97, 105, 110]]
def stOne (g : GH) (t : Nat) (U : State) (H : Heap) : Prop := va_Z "SheafVotes" (stN t) "[I" (.ref (g.1 (100 + t))) (Ag g) U H ∧ va_T .int (g.1 (100 + t)) (stL t).length (fun j => .int ((stL t).getD j 0)) (Ag g) U H
def sioZ (g : GH) (U : State) (H : Heap) : Prop := va_Z "jdk/internal/util/Preconditions" "SIOOBE_FORMATTER" "Ljava/util/function/BiFunction;" .null (Ag g) U H ∨ va_Z "jdk/internal/util/Preconditions" "SIOOBE_FORMATTER" "Ljava/util/function/BiFunction;" (.ref (g.1 999)) (Ag g) U H
def Stt (g : GH) (U : State) (H : Heap) : Prop :=
  (∀ w ∈ nests, va_Nw w U) ∧ (∀ t, t < 4 → stOne g t U H) ∧ (∀ i, i < 12 → vk_R "SheafVotes$TextReader" (strK.getD i 0) (strT.getD i "") (g.1 (200 + i)) U) ∧ vk_S 12 strN strB (fun i => g.1 (200 + i)) (fun i => g.1 (300 + i)) (Ag g) U H ∧ va_Z "java/lang/String" "COMPACT_STRINGS" "Z" (.int 1) (Ag g) U H ∧ sioZ g U H
theorem nest_warm {w : Cond} {s U : State} (h : isNest w = true) (hW : s.WarmedH U.vm) (hZ : va_Nw w s) : va_Nw w U := by
  cases w <;> first | exact va_Nw.warmF hW hZ | exact va_Nw.warmM hW hZ | (simp [isNest] at h)
theorem nest_tab {w : Cond} (h : isNest w = true) : w.onTables = true := by
  cases w <;> first | rfl | (simp [isNest] at h)
theorem nest_in {w : Cond} (h : w ∈ nests) : isNest w = true := (List.mem_filter.mp h).2
theorem Stt.go {g : GH} {s U : State} {H : Heap} {locs : List Loc} (h : Stt g s s.heap) (hS : va_S (Ag g) s.heap H locs) (hU : U.heap = H) (hW : s.WarmedH U.vm) : Stt g U U.heap := by
  obtain ⟨h1, h2, h3, h4, h5, h6⟩ := h
  rw [hU]
  refine ⟨fun w hw => nest_warm (nest_in hw) hW (h1 w hw), fun t ht => ⟨((h2 t ht).1.kept hS.2.1).moved hW.alike, ((h2 t ht).2.kept hS.2.1).moved hW.alike⟩, fun i hi => (h3 i hi).warm hW, (h4.kept hS.2.1).moved hW.alike, (h5.kept hS.2.1).moved hW.alike, ?_⟩
  rcases h6 with h6 | h6
  · exact Or.inl ((h6.kept hS.2.1).moved hW.alike)
  · exact Or.inr ((h6.kept hS.2.1).moved hW.alike)
theorem Stt.same {g : GH} {s U : State} (h : Stt g s s.heap) (hU : U.heap = s.heap) (hv : U.vm = s.vm) : Stt g U U.heap := by
  obtain ⟨h1, h2, h3, h4, h5, h6⟩ := h
  have hal : s.vm.Alike U.vm := by rw [hv]; exact Vm.Alike.refl _
  rw [hU]
  refine ⟨fun w hw => va_Nw.same (nest_tab (nest_in hw)) hv.symm (h1 w hw), fun t ht => ⟨(h2 t ht).1.moved hal, (h2 t ht).2.moved hal⟩, fun i hi => (h3 i hi).same hv, h4.moved hal, h5.moved hal, ?_⟩
  rcases h6 with h6 | h6
  · exact Or.inl (h6.moved hal)
  · exact Or.inr (h6.moved hal)
def Inv (g : GH) (mem : Mem) (U : State) : Prop := Gd g U ∧ va_P g.2.1 vwCl (cellsM g mem) U.heap ∧ Stt g U U.heap
abbrev ZT : Type := Room × Nat × Nat × (GH → State → Array Value → Prop) × (GH → State → Array Value → List Frame → State → Prop)
def Ctx (M : MT) (Z : ZT) (g : GH) (p : Program) (s : State) (m : MethodId) (args : Array Value) (meth : Method) (c : Code) : Prop :=
  p.tables.exec = Jvm.exec ∧ c.code = M.2.1 ∧ meth.sig.returnType = M.2.2.2.1 ∧ c.maxLocals = M.2.2.1 ∧ s.vm.findClass M.1.cls = some m.cls ∧ (∀ w ∈ tb, w.before args s = true) ∧ meth.locks = false ∧ Gd g s ∧ Stt g s s.heap ∧ Z.2.2.2.1 g s args
def lhas (g : GH) (la : Array Slot) (n : Nat) (ls : List (Option Value)) : Prop := la.size = n ∧ lv_wf la ∧ ∀ (i : Nat) (v : Value), ls[i]? = some (some v) → la[i]? = some (.val (rv g v))
def Wm (M : MT) (Z : ZT) (pc : Nat) (ls : List (Option Value)) (st : List Value) (mem : Mem) : Prop :=
  ∀ (g : GH) (p : Program) (l : Launch) (e : Env) (s : State) (m : MethodId) (args : Array Value) (below : List Frame) (meth : Method) (c : Code) (H : Heap) (locs : List Loc) (la : Array Slot), Ctx M Z g p s m args meth c → va_P g.2.1 vwCl (cellsM g mem) H → va_S (Ag g) s.heap H locs → lhas g la M.2.2.1 ls → W p l e Z.1 s m args below meth c H locs Z.2.1 Z.2.2.1 (Z.2.2.2.2 g s args below) (F0 m pc la (st.map (rv g)))
def Qm (g : GH) (Post : Option Value → Mem → Prop) : Array Value → State → Outcome → State → Prop := fun _ st oc t => (∃ (r : Option Value) (mem' : Mem), oc = .returned (r.map (rv g)) ∧ Post r mem' ∧ va_P g.2.1 vwCl (cellsM g mem') t.heap) ∧ va_F (Ag g) st t
def Cn (M : MT) (as : List Value) (mem : Mem) (Post : Option Value → Mem → Prop) : Prop :=
  ∀ (l : Launch) (g : GH), Met l M.1 (wsM M) (rmM M) (va_Pc (as.map (rv g)) (fun U => Inv g mem U)) (Qm g Post) 0 0 (Ag g)
def zM (M : MT) (Post : Option Value → Mem → Prop) : ZT := (rmM M, 0, 0, fun _ _ _ => True, fun g s args below => MQ below (Qm g Post) args s 0 0 (Ag g))
/-! entry -/
def entA : List Value → List (Option Value)
  | [] => []
  | v :: vs => if v.category = 2 then some v :: none :: entA vs else some v :: entA vs
theorem entA_in (g : GH) : ∀ (as : List Value) (off i : Nat) (v : Value), (entA as)[i]? = some (some v) → (off + i, rv g v) ∈ lv_args off (as.map (rv g)) := by
  intro as
  induction as with
  | nil => intro off i v h; simp [entA] at h
  | cons a as ih =>
    intro off i v h
    rw [List.map_cons, lv_args, rv_cat]
    unfold entA at h
    by_cases hc : a.category = 2
    · rw [if_pos hc] at h ⊢
      match i, h with
      | 0, h => simp at h; subst h; exact List.mem_cons_self
      | 1, h => simp at h
      | i + 2, h =>
        simp only [List.getElem?_cons_succ] at h
        have := ih (off + 2) i v h
        rw [show off + (i + 2) = off + 2 + i by omega]
        exact List.mem_cons_of_mem _ this
    · rw [if_neg hc] at h ⊢
      match i, h with
      | 0, h => simp at h; subst h; exact List.mem_cons_self
      | i + 1, h =>
        simp only [List.getElem?_cons_succ] at h
        have := ih (off + 1) i v h
        rw [show off + (i + 1) = off + 1 + i by omega]
        exact List.mem_cons_of_mem _ this
theorem entA_len (g : GH) (as : List Value) : (lg_sl (as.map (rv g))).length = (entA as).length := by
  induction as with
  | nil => rfl
  | cons a as ih =>
    unfold entA
    by_cases hc : a.category = 2
    · rw [if_pos hc]
      simp only [lg_sl, List.map_cons, List.flatMap_cons, rv_cat, hc, if_true] at ih ⊢
      simp only [List.length_append, List.length_cons, List.length_nil]
      omega
    · rw [if_neg hc]
      simp only [lg_sl, List.map_cons, List.flatMap_cons, rv_cat, hc, if_false] at ih ⊢
      simp only [List.length_append, List.length_cons, List.length_nil]
      omega
theorem Cn.of {M : MT} {as : List Value} {mem : Mem} {Post : Option Value → Mem → Prop} {ls : List (Option Value)} (hy : plainName M.1.cls = true) (hls : ls = entA as ++ List.replicate (M.2.2.1 - (entA as).length) none) (hn : (entA as).length ≤ M.2.2.1) (h : Wm M (zM M Post) 0 ls [] mem) : Cn M as mem Post := by
  intro l g
  refine Met.ofW (cc := M.2.1) (maxL := M.2.2.1) (ret := M.2.2.2.1) hy rfl ?_
  intro p e s m args below meth c s₁ B hml hv
  obtain ⟨rfl, hG, hP, hT⟩ := hv
  have hts := atoms_spec (ws := wsM M) B.pre
  have hown : s.vm.findClass M.1.cls = some m.cls := findClass_of_methodNamed B.named
  rw [lg_entry_eq]
  have hl := lv_entry (as.map (rv g)) (n := M.2.2.1) (by rw [entA_len]; exact hn)
  refine h g p l e s m _ below meth c s.heap [] _ ⟨B.exec, B.bytes, B.returns, hml, hown, fun w hw => hts w (List.mem_cons_of_mem _ hw), B.notSynchronized, hG, hT, trivial⟩ hP va_S.rf ⟨hl.1, hl.2.1, fun i v hv => ?_⟩
  subst hls
  refine hl.2.2 (i, rv g v) ?_
  have hi : (entA as)[i]? = some (some v) := by
    by_cases hlt : i < (entA as).length
    · rw [List.getElem?_append_left hlt] at hv; exact hv
    · rw [List.getElem?_append_right (by omega)] at hv
      have := List.mem_of_getElem? hv
      have := List.eq_of_mem_replicate this
      cases this
  have := entA_in g as 0 i v hi
  rwa [Nat.zero_add] at this
/-! returns -/
section RET
variable {M : MT} {Post : Option Value → Mem → Prop} {pc : Nat} {ls : List (Option Value)} {mem : Mem}
theorem w_iret {v : Int32} (hd : decode M.2.1 pc = .ok (.ireturn, 1)) (hr : M.2.2.2.1 = some .int) (hp : Post (some (.int v)) mem) : Wm M (zM M Post) pc ls [.int v] mem := by
  intro g p l e s m args below meth c H locs la C hP hS hl
  obtain ⟨hx, hb, hrt, hml, hown, hts, hlocks, hG, hT, -⟩ := C
  exact W.iret (v := v) hx hb (hrt.trans hr) (fun t ht hW => ⟨⟨some (.int v), mem, rfl, hp, by rw [ht]; exact hP⟩, hS.F ht⟩) hS.2.2 hd
theorem w_zret {v : Int32} {ty : FieldType} (hd : decode M.2.1 pc = .ok (.ireturn, 1)) (hr : M.2.2.2.1 = some ty) (hn : narrow ty (.int v) = .int v) (hp : Post (some (.int v)) mem) : Wm M (zM M Post) pc ls [.int v] mem := by
  intro g p l e s m args below meth c H locs la C hP hS hl
  obtain ⟨hx, hb, hrt, hml, hown, hts, hlocks, hG, hT, -⟩ := C
  exact W.zret (v := v) hx hb (hrt.trans hr) hn (fun t ht hW => ⟨⟨some (.int v), mem, rfl, hp, by rw [ht]; exact hP⟩, hS.F ht⟩) hS.2.2 hd
theorem w_vret (hd : decode M.2.1 pc = .ok (.return_, 1)) (hr : M.2.2.2.1 = none) (hp : Post none mem) : Wm M (zM M Post) pc ls [] mem := by
  intro g p l e s m args below meth c H locs la C hP hS hl
  obtain ⟨hx, hb, hrt, hml, hown, hts, hlocks, hG, hT, -⟩ := C
  exact W.vret hx hb (hrt.trans hr) (fun t ht hW => ⟨⟨none, mem, rfl, hp, by rw [ht]; exact hP⟩, hS.F ht⟩) hS.2.2 hd
theorem w_lret {v : Int64} (hd : decode M.2.1 pc = .ok (.lreturn, 1)) (hr : M.2.2.2.1 = some .long) (hp : Post (some (.long v)) mem) : Wm M (zM M Post) pc ls [.long v] mem := by
  intro g p l e s m args below meth c H locs la C hP hS hl
  obtain ⟨hx, hb, hrt, hml, hown, hts, hlocks, hG, hT, -⟩ := C
  exact W.lret (v := v) hx hb (hrt.trans hr) (fun t ht hW => ⟨⟨some (.long v), mem, rfl, hp, by rw [ht]; exact hP⟩, hS.F ht⟩) hS.2.2 hd
theorem w_aret {k : Nat} {rn : String} (hd : decode M.2.1 pc = .ok (.areturn, 1)) (hr : M.2.2.2.1 = some (.object rn)) (hp : Post (some (.ref k)) mem) : Wm M (zM M Post) pc ls [.ref k] mem := by
  intro g p l e s m args below meth c H locs la C hP hS hl
  obtain ⟨hx, hb, hrt, hml, hown, hts, hlocks, hG, hT, -⟩ := C
  exact W.aret (v := .ref (g.1 k)) hx hb (hrt.trans hr) (Or.inl ⟨rn, rfl⟩) (Or.inr ⟨_, rfl⟩) (fun t ht hW => ⟨⟨some (.ref k), mem, rfl, hp, by rw [ht]; exact hP⟩, hS.F ht⟩) hS.2.2 hd
end RET
