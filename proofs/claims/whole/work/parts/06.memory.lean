/-! rows that read and write the memory, statics and texts -/
def clC (ci : Nat) : vw_C := vwCl.getD ci (RX0, TX0, 7)
def tyC (ci : Nat) : Nat → FieldType := match ci with
  | 0 => tyX0
  | 1 => tyX1
  | 2 => tyX2
  | 3 => tyX3
  | 4 => tyX4
  | 5 => tyX5
  | _ => tyX6
theorem cl_at {ci : Nat} (h : ci < 7) : vwCl[ci]? = some (clC ci) := by
  match ci, h with
  | 0, _ => rfl
  | 1, _ => rfl
  | 2, _ => rfl
  | 3, _ => rfl
  | 4, _ => rfl
  | 5, _ => rfl
  | 6, _ => rfl
theorem ws_0 : ∀ w ∈ u_ws RX0 TX0 7, w ∈ tb := by decide +kernel
theorem ws_1 : ∀ w ∈ u_ws RX1 TX1 6, w ∈ tb := by decide +kernel
theorem ws_2 : ∀ w ∈ u_ws RX2 TX2 3, w ∈ tb := by decide +kernel
theorem ws_3 : ∀ w ∈ u_ws RX3 TX3 6, w ∈ tb := by decide +kernel
theorem ws_4 : ∀ w ∈ u_ws RX4 TX4 2, w ∈ tb := by decide +kernel
theorem ws_5 : ∀ w ∈ u_ws RX5 TX5 8, w ∈ tb := by decide +kernel
theorem ws_6 : ∀ w ∈ u_ws RX6 TX6 20, w ∈ tb := by decide +kernel
theorem cl_ws {ci : Nat} (h : ci < 7) : ∀ w ∈ u_ws (clC ci).1 (clC ci).2.1 (clC ci).2.2, w ∈ tb := by
  match ci, h with
  | 0, _ => exact ws_0
  | 1, _ => exact ws_1
  | 2, _ => exact ws_2
  | 3, _ => exact ws_3
  | 4, _ => exact ws_4
  | 5, _ => exact ws_5
  | 6, _ => exact ws_6
theorem cl_ty {ci : Nat} (h : ci < 7) : ∀ k, k < (clC ci).2.2 → parseFieldDescriptor ((clC ci).2.1 k).2.2.1 = some (tyC ci k) := by
  match ci, h with
  | 0, _ => exact tyX0_ok
  | 1, _ => exact tyX1_ok
  | 2, _ => exact tyX2_ok
  | 3, _ => exact tyX3_ok
  | 4, _ => exact tyX4_ok
  | 5, _ => exact tyX5_ok
  | 6, _ => exact tyX6_ok
theorem cl_nm {ci : Nat} (h : ci < 7) : ∀ a, a < (clC ci).2.2 → ∀ b, b < (clC ci).2.2 → a ≠ b → ((clC ci).2.1 a).2.1 ≠ ((clC ci).2.1 b).2.1 := by
  match ci, h with
  | 0, _ => exact nmX0
  | 1, _ => exact nmX1
  | 2, _ => exact nmX2
  | 3, _ => exact nmX3
  | 4, _ => exact nmX4
  | 5, _ => exact nmX5
  | 6, _ => exact nmX6
theorem obj_len {ci k : Nat} {f : Nat → Int32} (h : ci < 7) : (objM ci k f).length = (clC ci).2.2 := by
  match ci, h with
  | 0, _ => rfl
  | 1, _ => rfl
  | 2, _ => rfl
  | 3, _ => rfl
  | 4, _ => rfl
  | 5, _ => rfl
  | 6, _ => rfl
set_option maxHeartbeats 4000000 in
theorem obj_set {ci k j : Nat} {f : Nat → Int32} {x y : Int32} (hc : ci < 7) (h : (objM ci k f)[j]? = some (.int y)) : objM ci k (upd f j x) = (objM ci k f).set j (.int x) := by
  have hj : j < 20 := by
    have h1 := (List.getElem?_eq_some_iff.mp h).1
    rw [obj_len hc] at h1
    have h2 : (clC ci).2.2 ≤ 20 := by
      match ci, hc with
      | 0, _ => decide
      | 1, _ => decide
      | 2, _ => decide
      | 3, _ => decide
      | 4, _ => decide
      | 5, _ => decide
      | 6, _ => decide
    omega
  match ci, hc with
  | 0, _ => rcases j with _ | _ | _ | _ | _ | _ | _ | j <;> first | rfl | (simp [objM] at h)
  | 1, _ => rcases j with _ | _ | _ | _ | _ | _ | j <;> first | rfl | (simp [objM] at h)
  | 2, _ => rcases j with _ | _ | _ | j <;> first | rfl | (simp [objM] at h)
  | 3, _ => rcases j with _ | _ | _ | _ | _ | _ | j <;> first | rfl | (simp [objM] at h)
  | 4, _ => rcases j with _ | _ | j <;> first | rfl | (simp [objM] at h)
  | 5, _ => rcases j with _ | _ | _ | _ | _ | _ | _ | _ | j <;> first | rfl | (simp [objM] at h)
  | 6, _ => rcases j with _ | _ | _ | _ | _ | _ | _ | _ | _ | _ | _ | _ | _ | _ | _ | _ | _ | _ | _ | _ | j <;> first | rfl | (simp [objM] at h) | omega
def FLk (own : String) (idx ci j : Nat) : Prop := Cond.fieldLink own idx ((clC ci).2.1 j).1 ((clC ci).2.1 j).2.1 ((clC ci).2.1 j).2.2.1 ∈ tb ∨ Cond.fieldLinkNest own idx ((clC ci).2.1 j).1 ((clC ci).2.1 j).2.1 ((clC ci).2.1 j).2.2.1 "SheafVotes" ∈ nests
def SLk (own : String) (idx t : Nat) : Prop := Cond.fieldLink own idx "SheafVotes" (stN t) "[I" ∈ tb ∨ Cond.fieldLinkNest own idx "SheafVotes" (stN t) "[I" "SheafVotes" ∈ nests
theorem al_le (k : Nat) : al k ≤ 201 := by
  unfold al
  rcases Nat.lt_or_ge k 62 with h | h
  · have : ∀ k, k < 62 → alL.getD k 0 ≤ 201 := by decide +kernel
    exact this k h
  · rw [List.getD_eq_getElem?_getD, List.getElem?_eq_none (by rw [show alL.length = 62 by decide +kernel]; exact h)]
    exact Nat.zero_le _
section MEM
variable {M : MT} {Z : ZT} {pc n' : Nat} {ls ls' : List (Option Value)} {st : List Value} {mem : Mem}
theorem he_obj {g : GH} {k ci : Nat} (hk : kd k = ci) (hci : ci < 7) : (cellsM g mem)[k]? = some (g.1 k, .inr (ci, (objM ci k (mem k)).map (rv g))) := by
  rw [cells_at (kd_lt hk (by omega)), ent_obj hk hci]
theorem he_int {g : GH} {k : Nat} (hk : kd k = 10) : (cellsM g mem)[k]? = some (g.1 k, .inl (g.2.2 0, (al k, .inl (mem k)))) := by
  rw [cells_at (kd_lt hk (by omega)), ent_int hk]
theorem he_byte {g : GH} {k : Nat} (hk : kd k = 11) : (cellsM g mem)[k]? = some (g.1 k, .inl (g.2.2 1, (al k, .inl (mem k)))) := by
  rw [cells_at (kd_lt hk (by omega)), ent_byte hk]
theorem nest_at {w : Cond} {g : GH} {p : Program} {s : State} {m : MethodId} {args : Array Value} {meth : Method} {c : Code} (C : Ctx M Z g p s m args meth c) (h : w ∈ nests) : w.before args s = true := va_Nw.use (nest_tab (nest_in h)) (C.2.2.2.2.2.2.2.2.1.1 w h)
theorem w_get {k ci j idx : Nat} {v : Value} (hd : decode M.2.1 pc = .ok (.getfield idx, 3)) (hn : pc + 3 = n') (hL : FLk M.1.cls idx ci j) (hci : ci < 7) (hj : j < (clC ci).2.2) (hk : kd k = ci) (hv : (objM ci k (mem k))[j]? = some v) (kk : Wm M Z n' ls (v :: st) mem) : Wm M Z pc ls (.ref k :: st) mem := by
  subst hn
  intro g p l e s m args below meth c H locs la C hP hS hl
  have hv' : ((objM ci k (mem k)).map (rv g))[j]? = some (rv g v) := by rw [List.getElem?_map, hv]; rfl
  rcases hL with hL | hL
  · exact va_get (D := g.2.1) (ci := ci) (C := (clC ci).1) (T := (clC ci).2.1) (N := (clC ci).2.2) C.1 C.2.1 C.2.2.2.2.2.1 (cl_ws hci) C.2.2.2.2.1 C.2.2.2.2.2.2.2.1.1 hP k (he_obj hk hci) (cl_at hci) j hj (tb_at C hL) (fun _ h9 => h9) hv' hd (kk g p l e s m args below meth c H locs la C hP hS hl)
  · exact va_getN (D := g.2.1) (ci := ci) (C := (clC ci).1) (T := (clC ci).2.1) (N := (clC ci).2.2) C.1 C.2.1 C.2.2.2.2.2.1 (cl_ws hci) C.2.2.2.2.1 C.2.2.2.2.2.2.2.1.1 hP k (he_obj hk hci) (cl_at hci) j hj (nest_at C hL) (fun _ h9 => h9) hv' hd (kk g p l e s m args below meth c H locs la C hP hS hl)
theorem w_putT {k ci j idx : Nat} {x y : Int32} (hd : decode M.2.1 pc = .ok (.putfield idx, 3)) (hn : pc + 3 = n') (hL : FLk M.1.cls idx ci j) (hci : ci < 7) (hj : j < (clC ci).2.2) (hfin : ((clC ci).2.1 j).2.2.2 = false) (hnar : narrow (tyC ci j) (.int x) = .int x) (hfit : fits (tyC ci j) (.int x) = true) (hk : kd k = ci) (hv : (objM ci k (mem k))[j]? = some (.int y)) (kk : Wm M Z n' ls st (up2 mem k j x)) : Wm M Z pc ls (.int x :: .ref k :: st) mem := by
  subst hn
  intro g p l e s m args below meth c H locs la C hP hS hl
  have hset : (cellsM g mem).set k (g.1 k, .inr (ci, ((objM ci k (mem k)).map (rv g)).set j (.int x))) = cellsM g (up2 mem k j x) := by
    refine cells_set ?_ (fun a ha => up2_ne mem j x ha)
    rw [up2_same, ent_obj hk hci, obj_set hci hv, List.map_set]
    rfl
  have hlen : j < ((objM ci k (mem k)).map (rv g)).length := by rw [List.length_map, obj_len hci]; exact hj
  rcases hL with hL | hL
  · exact va_put (D := g.2.1) (ci := ci) (v := .int x) (ty := tyC ci j) (C := (clC ci).1) (T := (clC ci).2.1) (N := (clC ci).2.2) C.1 C.2.1 C.2.2.2.2.2.1 (cl_ws hci) (tyC ci) (cl_ty hci) (cl_nm hci) C.2.2.2.2.1 C.2.2.2.2.2.2.2.1.1 hP (cells_D C.2.2.2.2.2.2.2.1.2) hS k (he_obj hk hci) (cl_at hci) j hj (tb_at C hL) (fun _ h9 => h9) hfin (cl_ty hci j hj) hnar hfit hlen hd (fun H1 locs1 hP1 hD1 hS1 => kk g p l e s m args below meth c H1 locs1 la C (by rw [hset] at hP1; exact hP1) hS1 hl)
  · exact va_putN (D := g.2.1) (ci := ci) (v := .int x) (ty := tyC ci j) (C := (clC ci).1) (T := (clC ci).2.1) (N := (clC ci).2.2) C.1 C.2.1 C.2.2.2.2.2.1 (cl_ws hci) (tyC ci) (cl_ty hci) (cl_nm hci) C.2.2.2.2.1 C.2.2.2.2.2.2.2.1.1 hP (cells_D C.2.2.2.2.2.2.2.1.2) hS k (he_obj hk hci) (cl_at hci) j hj (nest_at C hL) (fun _ h9 => h9) hfin (cl_ty hci j hj) hnar hfit hlen hd (fun H1 locs1 hP1 hD1 hS1 => kk g p l e s m args below meth c H1 locs1 la C (by rw [hset] at hP1; exact hP1) hS1 hl)
/-- an int field gets an int -/
theorem w_put {k ci j idx : Nat} {x y : Int32} (hd : decode M.2.1 pc = .ok (.putfield idx, 3)) (hn : pc + 3 = n') (hL : FLk M.1.cls idx ci j) (hci : ci < 7) (hj : j < (clC ci).2.2) (hfin : ((clC ci).2.1 j).2.2.2 = false) (hty : tyC ci j = .int) (hk : kd k = ci) (hv : (objM ci k (mem k))[j]? = some (.int y)) (kk : Wm M Z n' ls st (up2 mem k j x)) : Wm M Z pc ls (.int x :: .ref k :: st) mem :=
  w_putT hd hn hL hci hj hfin (by rw [hty]; rfl) (by rw [hty]; rfl) hk hv kk
theorem w_iald {k n : Nat} {i : Int32} (hd : decode M.2.1 pc = .ok (.iaload, 1)) (hn : pc + 1 = n') (hk : kd k = 10) (hi : i = nI n) (hlt : n < al k) (kk : Wm M Z n' ls (.int (mem k n) :: st) mem) : Wm M Z pc ls (.int i :: .ref k :: st) mem := by
  subst hn
  subst hi
  intro g p l e s m args below meth c H locs la C hP hS hl
  have hb : n < 2 ^ 31 := by have := al_le k; omega
  refine va_iald (D := g.2.1) C.1 C.2.1 C.2.2.2.2.2.2.2.1.1 hP k 0 (he_int hk) rfl (vp_in_nI hlt (by have := al_le k; omega)) hd ?_
  rw [nI_clamp hb]
  exact kk g p l e s m args below meth c H locs la C hP hS hl
theorem w_iast {k n : Nat} {i x : Int32} (hd : decode M.2.1 pc = .ok (.iastore, 1)) (hn : pc + 1 = n') (hk : kd k = 10) (hi : i = nI n) (hlt : n < al k) (kk : Wm M Z n' ls st (up2 mem k n x)) : Wm M Z pc ls (.int x :: .int i :: .ref k :: st) mem := by
  subst hn
  subst hi
  intro g p l e s m args below meth c H locs la C hP hS hl
  have hb : n < 2 ^ 31 := by have := al_le k; omega
  refine va_iast (D := g.2.1) C.1 C.2.1 C.2.2.2.2.2.2.2.1.1 hP (cells_D C.2.2.2.2.2.2.2.1.2) hS k 0 (he_int hk) rfl (vp_in_nI hlt (by have := al_le k; omega)) hd (fun H1 locs1 hP1 hD1 hS1 => ?_)
  rw [nI_clamp hb, cells_set (mem' := up2 mem k n x) (by rw [up2_same, ent_int hk]) (fun a ha => up2_ne mem n x ha)] at hP1
  exact kk g p l e s m args below meth c H1 locs1 la C hP1 hS1 hl
theorem w_bald {k n : Nat} {i : Int32} (hd : decode M.2.1 pc = .ok (.baload, 1)) (hn : pc + 1 = n') (hk : kd k = 11) (hi : i = nI n) (hlt : n < al k) (kk : Wm M Z n' ls (.int (mem k n) :: st) mem) : Wm M Z pc ls (.int i :: .ref k :: st) mem := by
  subst hn
  subst hi
  intro g p l e s m args below meth c H locs la C hP hS hl
  have hb : n < 2 ^ 31 := by have := al_le k; omega
  refine va_bald (D := g.2.1) C.1 C.2.1 C.2.2.2.2.2.2.2.1.1 hP k 1 (he_byte hk) rfl (vp_in_nI hlt (by have := al_le k; omega)) hd ?_
  rw [nI_clamp hb]
  exact kk g p l e s m args below meth c H locs la C hP hS hl
theorem w_bast {k n : Nat} {i x x' : Int32} (hd : decode M.2.1 pc = .ok (.bastore, 1)) (hn : pc + 1 = n') (hk : kd k = 11) (hi : i = nI n) (hlt : n < al k) (hx : x.toInt8.toInt32 = x') (kk : Wm M Z n' ls st (up2 mem k n x')) : Wm M Z pc ls (.int x :: .int i :: .ref k :: st) mem := by
  subst hn
  subst hi
  subst hx
  intro g p l e s m args below meth c H locs la C hP hS hl
  have hb : n < 2 ^ 31 := by have := al_le k; omega
  refine va_bast (D := g.2.1) C.1 C.2.1 C.2.2.2.2.2.2.2.1.1 hP (cells_D C.2.2.2.2.2.2.2.1.2) hS k 1 (he_byte hk) rfl (vp_in_nI hlt (by have := al_le k; omega)) hd (fun H1 locs1 hP1 hD1 hS1 => ?_)
  rw [nI_clamp hb, vp_nar_byte, cells_set (mem' := up2 mem k n x.toInt8.toInt32) (by rw [up2_same, ent_byte hk]) (fun a ha => up2_ne mem n _ ha)] at hP1
  exact kk g p l e s m args below meth c H1 locs1 la C hP1 hS1 hl
theorem w_alen {k n : Nat} (hd : decode M.2.1 pc = .ok (.arraylength, 1)) (hn : pc + 1 = n') (hk : kd k = 10) (ha : al k = n) (kk : Wm M Z n' ls (.int (nI n) :: st) mem) : Wm M Z pc ls (.ref k :: st) mem := by
  subst hn
  subst ha
  intro g p l e s m args below meth c H locs la C hP hS hl
  exact va_alen (D := g.2.1) (v := nI (al k)) C.1 C.2.1 C.2.2.2.2.2.2.2.1.1 hP k 0 (he_int hk) rfl rfl hd (kk g p l e s m args below meth c H locs la C hP hS hl)
theorem w_aaldF {k n : Nat} {i : Int32} (hd : decode M.2.1 pc = .ok (.aaload, 1)) (hn : pc + 1 = n') (hk : kd k = 12) (hi : i = nI n) (hlt : n < 8) (kk : Wm M Z n' ls (.ref (k + 1 + n) :: st) mem) : Wm M Z pc ls (.int i :: .ref k :: st) mem := by
  subst hn
  subst hi
  intro g p l e s m args below meth c H locs la C hP hS hl
  have he : (cellsM g mem)[k]? = some (g.1 k, .inl (g.2.2 2, (8, .inr (.inr (.inr (.inr (fun i => some (g.1 (k + 1 + i))))))))) := by rw [cells_at (kd_lt hk (by omega)), ent_rows hk]
  refine va_aldq (D := g.2.1) C.1 C.2.1 C.2.2.2.2.2.2.2.1.1 hP k 2 he rfl (vp_in_nI hlt (by omega)) hd ?_
  rw [nI_clamp (by omega)]
  exact kk g p l e s m args below meth c H locs la C hP hS hl
theorem w_aaldS {k n : Nat} {i : Int32} (hd : decode M.2.1 pc = .ok (.aaload, 1)) (hn : pc + 1 = n') (hk : kd k = 13) (hi : i = nI n) (hlt : n < 4) (kk : Wm M Z n' ls (.ref (k + 1 + 2 * n) :: st) mem) : Wm M Z pc ls (.int i :: .ref k :: st) mem := by
  subst hn
  subst hi
  intro g p l e s m args below meth c H locs la C hP hS hl
  have he : (cellsM g mem)[k]? = some (g.1 k, .inl (g.2.2 3, (4, .inr (.inr (.inr (.inr (fun i => some (g.1 (k + 1 + 2 * i))))))))) := by rw [cells_at (kd_lt hk (by omega)), ent_sheets hk]
  refine va_aldq (D := g.2.1) C.1 C.2.1 C.2.2.2.2.2.2.2.1.1 hP k 3 he rfl (vp_in_nI hlt (by omega)) hd ?_
  rw [nI_clamp (by omega)]
  exact kk g p l e s m args below meth c H locs la C hP hS hl
/-! statics -/
theorem w_gets {t idx : Nat} (hd : decode M.2.1 pc = .ok (.getstatic idx, 3)) (hn : pc + 3 = n') (hL : SLk M.1.cls idx t) (ht : t < 4) (kk : Wm M Z n' ls (.ref (100 + t) :: st) mem) : Wm M Z pc ls st mem := by
  subst hn
  intro g p l e s m args below meth c H locs la C hP hS hl
  have hZ := (C.2.2.2.2.2.2.2.2.1.2.1 t ht).1
  rcases hL with hL | hL
  · exact va_gets C.1 C.2.1 hZ hS C.2.2.2.2.1 (tb_at C hL) (fun _ h9 => h9) hd (kk g p l e s m args below meth c H locs la C hP hS hl)
  · exact va_getsN C.1 C.2.1 hZ hS C.2.2.2.2.1 (nest_at C hL) (fun _ h9 => h9) hd (kk g p l e s m args below meth c H locs la C hP hS hl)
theorem w_ialdS {t n : Nat} {i : Int32} (hd : decode M.2.1 pc = .ok (.iaload, 1)) (hn : pc + 1 = n') (ht : t < 4) (hi : i = nI n) (hlt : n < (stL t).length) (kk : Wm M Z n' ls (.int ((stL t).getD n 0) :: st) mem) : Wm M Z pc ls (.int i :: .ref (100 + t) :: st) mem := by
  subst hn
  subst hi
  intro g p l e s m args below meth c H locs la C hP hS hl
  have h7 : (stL t).length ≤ 7 := by
    match t, ht with
    | 0, _ => decide
    | 1, _ => decide
    | 2, _ => decide
    | 3, _ => decide
  refine va_ti C.1 C.2.1 (C.2.2.2.2.2.2.2.2.1.2.1 t ht).2 hS (vp_in_nI hlt (by omega)) (v := .int ((stL t).getD n 0)) (by rw [nI_clamp (by omega)]) hd (kk g p l e s m args below meth c H locs la C hP hS hl)
theorem w_alenT {t n : Nat} (hd : decode M.2.1 pc = .ok (.arraylength, 1)) (hn : pc + 1 = n') (ht : t < 4) (ha : (stL t).length = n) (kk : Wm M Z n' ls (.int (nI n) :: st) mem) : Wm M Z pc ls (.ref (100 + t) :: st) mem := by
  subst hn
  subst ha
  intro g p l e s m args below meth c H locs la C hP hS hl
  exact va_tlen C.1 C.2.1 (C.2.2.2.2.2.2.2.2.1.2.1 t ht).2 hS rfl hd (kk g p l e s m args below meth c H locs la C hP hS hl)
theorem w_getsZ {idx : Nat} (hd : decode M.2.1 pc = .ok (.getstatic idx, 3)) (hn : pc + 3 = n') (hL : Cond.fieldLink M.1.cls idx "java/lang/String" "COMPACT_STRINGS" "Z" ∈ tb) (kk : Wm M Z n' ls (.int 1 :: st) mem) : Wm M Z pc ls st mem := by
  subst hn
  intro g p l e s m args below meth c H locs la C hP hS hl
  exact va_gets C.1 C.2.1 C.2.2.2.2.2.2.2.2.1.2.2.2.2.1 hS C.2.2.2.2.1 (tb_at C hL) (fun _ h9 => h9) hd (kk g p l e s m args below meth c H locs la C hP hS hl)
theorem w_getsQ {idx : Nat} (hd : decode M.2.1 pc = .ok (.getstatic idx, 3)) (hn : pc + 3 = n') (hL : Cond.fieldLink M.1.cls idx "jdk/internal/util/Preconditions" "SIOOBE_FORMATTER" "Ljava/util/function/BiFunction;" ∈ tb) (kk : ∀ v : Value, v = .null ∨ v = .ref 999 → Wm M Z n' ls (v :: st) mem) : Wm M Z pc ls st mem := by
  subst hn
  intro g p l e s m args below meth c H locs la C hP hS hl
  rcases C.2.2.2.2.2.2.2.2.1.2.2.2.2.2 with hZ | hZ
  · exact va_gets C.1 C.2.1 hZ hS C.2.2.2.2.1 (tb_at C hL) (fun _ h9 => h9) hd (kk .null (Or.inl rfl) g p l e s m args below meth c H locs la C hP hS hl)
  · exact va_gets C.1 C.2.1 hZ hS C.2.2.2.2.1 (tb_at C hL) (fun _ h9 => h9) hd (kk (.ref 999) (Or.inr rfl) g p l e s m args below meth c H locs la C hP hS hl)
/-! texts -/
theorem w_ldcS {i idx : Nat} (hd : decode M.2.1 pc = .ok (.ldc idx, 2)) (hn : pc + 2 = n') (hi : i < 12) (hx : strK.getD i 0 = idx) (hc : M.1.cls = "SheafVotes$TextReader") (kk : Wm M Z n' ls (.ref (200 + i) :: st) mem) : Wm M Z pc ls st mem := by
  subst hn
  subst hx
  intro g p l e s m args below meth c H locs la C hP hS hl
  exact va_ldcS C.1 C.2.1 (by rw [← hc]; exact C.2.2.2.2.1) (C.2.2.2.2.2.2.2.2.1.2.2.1 i hi) hd (kk g p l e s m args below meth c H locs la C hP hS hl)
theorem w_strV {i idx : Nat} (hd : decode M.2.1 pc = .ok (.getfield idx, 3)) (hn : pc + 3 = n') (hL : Cond.fieldLink M.1.cls idx "java/lang/String" "value" "[B" ∈ tb) (hi : i < 12) (kk : Wm M Z n' ls (.ref (300 + i) :: st) mem) : Wm M Z pc ls (.ref (200 + i) :: st) mem := by
  subst hn
  intro g p l e s m args below meth c H locs la C hP hS hl
  exact vk_getf C.1 C.2.1 (C.2.2.2.2.2.2.2.2.1.2.2.2.1.1 i hi).2.2.1 hS C.2.2.2.2.1 (tb_at C hL) (fun _ h9 => h9) hd (kk g p l e s m args below meth c H locs la C hP hS hl)
theorem w_strC {i idx : Nat} (hd : decode M.2.1 pc = .ok (.getfield idx, 3)) (hn : pc + 3 = n') (hL : Cond.fieldLink M.1.cls idx "java/lang/String" "coder" "B" ∈ tb) (hi : i < 12) (kk : Wm M Z n' ls (.int 0 :: st) mem) : Wm M Z pc ls (.ref (200 + i) :: st) mem := by
  subst hn
  intro g p l e s m args below meth c H locs la C hP hS hl
  exact vk_getf C.1 C.2.1 (C.2.2.2.2.2.2.2.2.1.2.2.2.1.1 i hi).2.1 hS C.2.2.2.2.1 (tb_at C hL) (fun _ h9 => h9) hd (kk g p l e s m args below meth c H locs la C hP hS hl)
theorem w_baldS {i n : Nat} {j : Int32} (hd : decode M.2.1 pc = .ok (.baload, 1)) (hn : pc + 1 = n') (hi : i < 12) (hj : j = nI n) (hlt : n < strN.getD i 0) (kk : Wm M Z n' ls (.int ((strB.getD i []).getD n 0) :: st) mem) : Wm M Z pc ls (.int j :: .ref (300 + i) :: st) mem := by
  subst hn
  subst hj
  intro g p l e s m args below meth c H locs la C hP hS hl
  have h7 : strN.getD i 0 ≤ 7 := by
    have : ∀ i, i < 12 → strN.getD i 0 ≤ 7 := by decide +kernel
    exact this i hi
  exact va_tb C.1 C.2.1 (C.2.2.2.2.2.2.2.2.1.2.2.2.1.1 i hi).2.2.2 hS (vp_in_nI hlt (by omega)) (v := .int ((strB.getD i []).getD n 0)) (by rw [nI_clamp (by omega)]) hd (kk g p l e s m args below meth c H locs la C hP hS hl)
theorem w_alenB {i n : Nat} (hd : decode M.2.1 pc = .ok (.arraylength, 1)) (hn : pc + 1 = n') (hi : i < 12) (ha : strN.getD i 0 = n) (kk : Wm M Z n' ls (.int (nI n) :: st) mem) : Wm M Z pc ls (.ref (300 + i) :: st) mem := by
  subst hn
  subst ha
  intro g p l e s m args below meth c H locs la C hP hS hl
  exact va_tlen C.1 C.2.1 (C.2.2.2.2.2.2.2.2.1.2.2.2.1.1 i hi).2.2.2 hS rfl hd (kk g p l e s m args below meth c H locs la C hP hS hl)
end MEM
