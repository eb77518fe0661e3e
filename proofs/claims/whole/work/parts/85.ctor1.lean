/-! constructors: the small ones -/
set_option maxHeartbeats 8000000 in
set_option maxRecDepth 100000 in
theorem i_X0 (h0 : Nat) : CtI mX0_init 0 0 Unit [.ref h0] [(h0, .inr (0, [.int 0, .int 0, .int 0, .int 0, .int 0, .int 0, .int 0]))] (fun _ _ => [(h0, .inr (0, [.int 0, .int 0, .int 4, .int 0, .int 0, .int (-1), .int 0]))]) := by
  intro l D cA sz
  refine Met.ofW (cc := mX0_init.2.1) (maxL := 1) (ret := none) (by decide) rfl ?_
  intro p e s m args below meth c s₁ B hml hv
  obtain ⟨rfl, hsz, hP, hK, hD0, hO⟩ := hv
  have hx := B.exec
  have hb := B.bytes
  have hr := B.returns
  have hts := atoms_spec (ws := wsM mX0_init) B.pre
  have htb := fun (w : Cond) (hw : w ∈ tb) => hts w (List.mem_cons_of_mem _ hw)
  have hown : s.vm.findClass RX0 = some m.cls := findClass_of_methodNamed B.named
  have hlocks := B.notSynchronized
  have hin : meth.name = "<init>" := (name_of_methodNamed B.named B.method).1
  subst hsz
  have hD := hD0.self (sz := s.heap.size)
  generalize hAe : va_A [(h0, .inr (0, [.int 0, .int 0, .int 0, .int 0, .int 0, .int 0, .int 0]))] s.heap.size = A at hD ⊢
  have hA : ∀ q : Nat, s.heap.size ≤ q → A q := fun q h => by rw [← hAe]; exact Or.inr h
  have hS : va_S A s.heap s.heap [] := va_S.rf
  have hP : va_P D vwCl [(h0, .inr (0, [.int 0, .int 0, .int 0, .int 0, .int 0, .int 0, .int 0]))] s.heap := hP
  have hl := lv_entry ([.ref h0]) (n := 1) (Nat.le_of_ble_eq_true rfl)
  rw [lg_entry_eq]
  generalize (lg_sl ([.ref h0]) ++ List.replicate (1 - (lg_sl ([.ref h0])).length) Slot.unset).toArray = ls at hl ⊢
  have hl : lv_has ls 1 [(0, .ref h0)] := hl
  refine lv_aload_n hx hb dX0_init_0 rfl (lv_at hl 0 rfl) ?_
  refine W.objInit hx hb hown (htb _ lO_RX0) (htb _ wOb_i) (htb _ wOb_c) rfl (by rw [hml]; exact hl.1) rfl dX0_init_1 (Nat.le_of_ble_eq_true rfl) (Nat.le_of_ble_eq_true rfl) ?_
  refine W.eq (g2 := F0 m 4 ls []) rfl ?_
  refine lv_aload_n hx hb dX0_init_4 rfl (lv_at hl 0 rfl) ?_
  refine lv_iconst (v := 0) hx hb dX0_init_5 (by decide) ?_
  refine va_put (D := D) (ci := 0) (v := .int 0) (ty := tyC 0 0) (C := (clC 0).1) (T := (clC 0).2.1) (N := (clC 0).2.2) hx hb htb (cl_ws (Nat.le_of_ble_eq_true rfl)) (tyC 0) (cl_ty (Nat.le_of_ble_eq_true rfl)) (cl_nm (Nat.le_of_ble_eq_true rfl)) hown hK hP hD hS 0 rfl (cl_at (Nat.le_of_ble_eq_true rfl)) 0 (Nat.le_of_ble_eq_true rfl) (htb _ gf_RX0_9) (fun _ h9 => h9) rfl (cl_ty (Nat.le_of_ble_eq_true rfl) 0 (Nat.le_of_ble_eq_true rfl)) rfl rfl (Nat.le_of_ble_eq_true rfl) dX0_init_6 (fun H locs hP hD hS => ?_)
  have hP : va_P D vwCl [(h0, .inr (0, [.int 0, .int 0, .int 0, .int 0, .int 0, .int 0, .int 0]))] H := hP
  have hD : va_D A [(h0, .inr (0, [.int 0, .int 0, .int 0, .int 0, .int 0, .int 0, .int 0]))] := hD
  refine lv_aload_n hx hb dX0_init_9 rfl (lv_at hl 0 rfl) ?_
  refine lv_iconst (v := 4) hx hb dX0_init_10 (by decide) ?_
  refine va_put (D := D) (ci := 0) (v := .int 4) (ty := tyC 0 2) (C := (clC 0).1) (T := (clC 0).2.1) (N := (clC 0).2.2) hx hb htb (cl_ws (Nat.le_of_ble_eq_true rfl)) (tyC 0) (cl_ty (Nat.le_of_ble_eq_true rfl)) (cl_nm (Nat.le_of_ble_eq_true rfl)) hown hK hP hD hS 0 rfl (cl_at (Nat.le_of_ble_eq_true rfl)) 2 (Nat.le_of_ble_eq_true rfl) (htb _ gf_RX0_15) (fun _ h9 => h9) rfl (cl_ty (Nat.le_of_ble_eq_true rfl) 2 (Nat.le_of_ble_eq_true rfl)) rfl rfl (Nat.le_of_ble_eq_true rfl) dX0_init_11 (fun H locs hP hD hS => ?_)
  have hP : va_P D vwCl [(h0, .inr (0, [.int 0, .int 0, .int 4, .int 0, .int 0, .int 0, .int 0]))] H := hP
  have hD : va_D A [(h0, .inr (0, [.int 0, .int 0, .int 4, .int 0, .int 0, .int 0, .int 0]))] := hD
  refine lv_aload_n hx hb dX0_init_14 rfl (lv_at hl 0 rfl) ?_
  refine lv_iconst (v := -1) hx hb dX0_init_15 (by decide) ?_
  refine va_put (D := D) (ci := 0) (v := .int (-1)) (ty := tyC 0 5) (C := (clC 0).1) (T := (clC 0).2.1) (N := (clC 0).2.2) hx hb htb (cl_ws (Nat.le_of_ble_eq_true rfl)) (tyC 0) (cl_ty (Nat.le_of_ble_eq_true rfl)) (cl_nm (Nat.le_of_ble_eq_true rfl)) hown hK hP hD hS 0 rfl (cl_at (Nat.le_of_ble_eq_true rfl)) 5 (Nat.le_of_ble_eq_true rfl) (htb _ gf_RX0_18) (fun _ h9 => h9) rfl (cl_ty (Nat.le_of_ble_eq_true rfl) 5 (Nat.le_of_ble_eq_true rfl)) rfl rfl (Nat.le_of_ble_eq_true rfl) dX0_init_16 (fun H locs hP hD hS => ?_)
  have hP : va_P D vwCl [(h0, .inr (0, [.int 0, .int 0, .int 4, .int 0, .int 0, .int (-1), .int 0]))] H := hP
  have hD : va_D A [(h0, .inr (0, [.int 0, .int 0, .int 4, .int 0, .int 0, .int (-1), .int 0]))] := hD
  exact W.vret hx hb hr (fun t ht hW => ⟨⟨(), rfl, trivial, by rw [ht]; exact hP, hD⟩, hS.F ht⟩) hS.2.2 dX0_init_19
set_option maxHeartbeats 8000000 in
set_option maxRecDepth 100000 in
theorem i_X2 (h0 : Nat) : CtI mX2_init 1 40 Nat [.ref h0] [(h0, .inr (2, [.null, .int 0, .int 0]))] (fun cA u => [(h0, .inr (2, [.ref u, .int 0, .int 0])), (u, .inl (cA 0, (40, .inl (fun _ => 0))))]) := by
  intro l D cA sz
  refine Met.ofW (cc := mX2_init.2.1) (maxL := 1) (ret := none) (by decide) rfl ?_
  intro p e s m args below meth c s₁ B hml hv
  obtain ⟨rfl, hsz, hP, hK, hD0, hO⟩ := hv
  have hx := B.exec
  have hb := B.bytes
  have hr := B.returns
  have hts := atoms_spec (ws := wsM mX2_init) B.pre
  have htb := fun (w : Cond) (hw : w ∈ tb) => hts w (List.mem_cons_of_mem _ hw)
  have hown : s.vm.findClass RX2 = some m.cls := findClass_of_methodNamed B.named
  have hlocks := B.notSynchronized
  have hin : meth.name = "<init>" := (name_of_methodNamed B.named B.method).1
  subst hsz
  have hD := hD0.self (sz := s.heap.size)
  generalize hAe : va_A [(h0, .inr (2, [.null, .int 0, .int 0]))] s.heap.size = A at hD ⊢
  have hA : ∀ q : Nat, s.heap.size ≤ q → A q := fun q h => by rw [← hAe]; exact Or.inr h
  have hS : va_S A s.heap s.heap [] := va_S.rf
  have hP : va_P D vwCl [(h0, .inr (2, [.null, .int 0, .int 0]))] s.heap := hP
  have hl := lv_entry ([.ref h0]) (n := 1) (Nat.le_of_ble_eq_true rfl)
  rw [lg_entry_eq]
  generalize (lg_sl ([.ref h0]) ++ List.replicate (1 - (lg_sl ([.ref h0])).length) Slot.unset).toArray = ls at hl ⊢
  have hl : lv_has ls 1 [(0, .ref h0)] := hl
  refine lv_aload_n hx hb dX2_init_0 rfl (lv_at hl 0 rfl) ?_
  refine W.objInit hx hb hown (htb _ lO_RX2) (htb _ wOb_i) (htb _ wOb_c) rfl (by rw [hml]; exact hl.1) rfl dX2_init_1 (Nat.le_of_ble_eq_true rfl) (Nat.le_of_ble_eq_true rfl) ?_
  refine W.eq (g2 := F0 m 4 ls []) rfl ?_
  refine lv_aload_n hx hb dX2_init_4 rfl (lv_at hl 0 rfl) ?_
  refine lv_bipush (v := 40) hx hb dX2_init_5 (by decide) ?_
  refine va_newa (atype := .int) (ty := .int) (a0 := (40, .inl (fun _ => 0))) hx hb (htb _ wA_int) rfl hK hP hD hS hA (fun _ => rfl) (by decide) (by decide) (Nat.le_of_ble_eq_true rfl) (Nat.le_of_ble_eq_true rfl) (Nat.le_of_ble_eq_true rfl) dX2_init_7 (fun q7_1 c7_1 H hK2 hP hD hS => ?_)
  have e9 := kA_i hK2
  subst e9
  clear hK2
  have hP : va_P D vwCl [(h0, .inr (2, [.null, .int 0, .int 0])), (q7_1, .inl (cA 0, (40, .inl (fun _ => 0))))] H := hP
  have hD : va_D A [(h0, .inr (2, [.null, .int 0, .int 0])), (q7_1, .inl (cA 0, (40, .inl (fun _ => 0))))] := hD
  refine va_putF (D := D) (ci := 2) (v := .ref q7_1) (ty := tyC 2 0) (C := (clC 2).1) (T := (clC 2).2.1) (N := (clC 2).2.2) hx hb htb (cl_ws (Nat.le_of_ble_eq_true rfl)) (tyC 2) (cl_ty (Nat.le_of_ble_eq_true rfl)) (cl_nm (Nat.le_of_ble_eq_true rfl)) hown hK hP hD hS 0 rfl (cl_at (Nat.le_of_ble_eq_true rfl)) 0 (Nat.le_of_ble_eq_true rfl) (htb _ gf_RX2_9) (fun _ h9 => h9) rfl hin rfl (cl_ty (Nat.le_of_ble_eq_true rfl) 0 (Nat.le_of_ble_eq_true rfl)) rfl rfl (Nat.le_of_ble_eq_true rfl) dX2_init_9 (fun H locs hP hD hS => ?_)
  have hP : va_P D vwCl [(h0, .inr (2, [.ref q7_1, .int 0, .int 0])), (q7_1, .inl (cA 0, (40, .inl (fun _ => 0))))] H := hP
  have hD : va_D A [(h0, .inr (2, [.ref q7_1, .int 0, .int 0])), (q7_1, .inl (cA 0, (40, .inl (fun _ => 0))))] := hD
  refine lv_aload_n hx hb dX2_init_12 rfl (lv_at hl 0 rfl) ?_
  refine lv_iconst (v := 0) hx hb dX2_init_13 (by decide) ?_
  refine va_put (D := D) (ci := 2) (v := .int 0) (ty := tyC 2 1) (C := (clC 2).1) (T := (clC 2).2.1) (N := (clC 2).2.2) hx hb htb (cl_ws (Nat.le_of_ble_eq_true rfl)) (tyC 2) (cl_ty (Nat.le_of_ble_eq_true rfl)) (cl_nm (Nat.le_of_ble_eq_true rfl)) hown hK hP hD hS 0 rfl (cl_at (Nat.le_of_ble_eq_true rfl)) 1 (Nat.le_of_ble_eq_true rfl) (htb _ gf_RX2_15) (fun _ h9 => h9) rfl (cl_ty (Nat.le_of_ble_eq_true rfl) 1 (Nat.le_of_ble_eq_true rfl)) rfl rfl (Nat.le_of_ble_eq_true rfl) dX2_init_14 (fun H locs hP hD hS => ?_)
  have hP : va_P D vwCl [(h0, .inr (2, [.ref q7_1, .int 0, .int 0])), (q7_1, .inl (cA 0, (40, .inl (fun _ => 0))))] H := hP
  have hD : va_D A [(h0, .inr (2, [.ref q7_1, .int 0, .int 0])), (q7_1, .inl (cA 0, (40, .inl (fun _ => 0))))] := hD
  refine lv_aload_n hx hb dX2_init_17 rfl (lv_at hl 0 rfl) ?_
  refine lv_iconst (v := 0) hx hb dX2_init_18 (by decide) ?_
  refine va_put (D := D) (ci := 2) (v := .int 0) (ty := tyC 2 2) (C := (clC 2).1) (T := (clC 2).2.1) (N := (clC 2).2.2) hx hb htb (cl_ws (Nat.le_of_ble_eq_true rfl)) (tyC 2) (cl_ty (Nat.le_of_ble_eq_true rfl)) (cl_nm (Nat.le_of_ble_eq_true rfl)) hown hK hP hD hS 0 rfl (cl_at (Nat.le_of_ble_eq_true rfl)) 2 (Nat.le_of_ble_eq_true rfl) (htb _ gf_RX2_19) (fun _ h9 => h9) rfl (cl_ty (Nat.le_of_ble_eq_true rfl) 2 (Nat.le_of_ble_eq_true rfl)) rfl rfl (Nat.le_of_ble_eq_true rfl) dX2_init_19 (fun H locs hP hD hS => ?_)
  have hP : va_P D vwCl [(h0, .inr (2, [.ref q7_1, .int 0, .int 0])), (q7_1, .inl (cA 0, (40, .inl (fun _ => 0))))] H := hP
  have hD : va_D A [(h0, .inr (2, [.ref q7_1, .int 0, .int 0])), (q7_1, .inl (cA 0, (40, .inl (fun _ => 0))))] := hD
  exact W.vret hx hb hr (fun t ht hW => ⟨⟨q7_1, rfl, trivial, by rw [ht]; exact hP, hD⟩, hS.F ht⟩) hS.2.2 dX2_init_22
set_option maxHeartbeats 8000000 in
set_option maxRecDepth 100000 in
theorem i_X3 (h0 : Nat) : CtI mX3_init 1 120 Nat [.ref h0] [(h0, .inr (3, [.null, .int 0, .int 0, .int 0, .int 0, .int 0]))] (fun cA u => [(h0, .inr (3, [.ref u, .int 0, .int 0, .int 0, .int 5, .int 0])), (u, .inl (cA 1, (120, .inl (fun _ => 0))))]) := by
  intro l D cA sz
  refine Met.ofW (cc := mX3_init.2.1) (maxL := 1) (ret := none) (by decide) rfl ?_
  intro p e s m args below meth c s₁ B hml hv
  obtain ⟨rfl, hsz, hP, hK, hD0, hO⟩ := hv
  have hx := B.exec
  have hb := B.bytes
  have hr := B.returns
  have hts := atoms_spec (ws := wsM mX3_init) B.pre
  have htb := fun (w : Cond) (hw : w ∈ tb) => hts w (List.mem_cons_of_mem _ hw)
  have hown : s.vm.findClass RX3 = some m.cls := findClass_of_methodNamed B.named
  have hlocks := B.notSynchronized
  have hin : meth.name = "<init>" := (name_of_methodNamed B.named B.method).1
  subst hsz
  have hD := hD0.self (sz := s.heap.size)
  generalize hAe : va_A [(h0, .inr (3, [.null, .int 0, .int 0, .int 0, .int 0, .int 0]))] s.heap.size = A at hD ⊢
  have hA : ∀ q : Nat, s.heap.size ≤ q → A q := fun q h => by rw [← hAe]; exact Or.inr h
  have hS : va_S A s.heap s.heap [] := va_S.rf
  have hP : va_P D vwCl [(h0, .inr (3, [.null, .int 0, .int 0, .int 0, .int 0, .int 0]))] s.heap := hP
  have hl := lv_entry ([.ref h0]) (n := 1) (Nat.le_of_ble_eq_true rfl)
  rw [lg_entry_eq]
  generalize (lg_sl ([.ref h0]) ++ List.replicate (1 - (lg_sl ([.ref h0])).length) Slot.unset).toArray = ls at hl ⊢
  have hl : lv_has ls 1 [(0, .ref h0)] := hl
  refine lv_aload_n hx hb dX3_init_0 rfl (lv_at hl 0 rfl) ?_
  refine W.objInit hx hb hown (htb _ lO_RX3) (htb _ wOb_i) (htb _ wOb_c) rfl (by rw [hml]; exact hl.1) rfl dX3_init_1 (Nat.le_of_ble_eq_true rfl) (Nat.le_of_ble_eq_true rfl) ?_
  refine W.eq (g2 := F0 m 4 ls []) rfl ?_
  refine lv_aload_n hx hb dX3_init_4 rfl (lv_at hl 0 rfl) ?_
  refine lv_bipush (v := 120) hx hb dX3_init_5 (by decide) ?_
  refine va_newa (atype := .byte) (ty := .byte) (a0 := (120, .inl (fun _ => 0))) hx hb (htb _ wA_byte) rfl hK hP hD hS hA (fun _ => rfl) (by decide) (by decide) (Nat.le_of_ble_eq_true rfl) (Nat.le_of_ble_eq_true rfl) (Nat.le_of_ble_eq_true rfl) dX3_init_7 (fun q7_1 c7_1 H hK2 hP hD hS => ?_)
  have e9 := kA_b hK2
  subst e9
  clear hK2
  have hP : va_P D vwCl [(h0, .inr (3, [.null, .int 0, .int 0, .int 0, .int 0, .int 0])), (q7_1, .inl (cA 1, (120, .inl (fun _ => 0))))] H := hP
  have hD : va_D A [(h0, .inr (3, [.null, .int 0, .int 0, .int 0, .int 0, .int 0])), (q7_1, .inl (cA 1, (120, .inl (fun _ => 0))))] := hD
  refine va_putF (D := D) (ci := 3) (v := .ref q7_1) (ty := tyC 3 0) (C := (clC 3).1) (T := (clC 3).2.1) (N := (clC 3).2.2) hx hb htb (cl_ws (Nat.le_of_ble_eq_true rfl)) (tyC 3) (cl_ty (Nat.le_of_ble_eq_true rfl)) (cl_nm (Nat.le_of_ble_eq_true rfl)) hown hK hP hD hS 0 rfl (cl_at (Nat.le_of_ble_eq_true rfl)) 0 (Nat.le_of_ble_eq_true rfl) (htb _ gf_RX3_9) (fun _ h9 => h9) rfl hin rfl (cl_ty (Nat.le_of_ble_eq_true rfl) 0 (Nat.le_of_ble_eq_true rfl)) rfl rfl (Nat.le_of_ble_eq_true rfl) dX3_init_9 (fun H locs hP hD hS => ?_)
  have hP : va_P D vwCl [(h0, .inr (3, [.ref q7_1, .int 0, .int 0, .int 0, .int 0, .int 0])), (q7_1, .inl (cA 1, (120, .inl (fun _ => 0))))] H := hP
  have hD : va_D A [(h0, .inr (3, [.ref q7_1, .int 0, .int 0, .int 0, .int 0, .int 0])), (q7_1, .inl (cA 1, (120, .inl (fun _ => 0))))] := hD
  refine lv_aload_n hx hb dX3_init_12 rfl (lv_at hl 0 rfl) ?_
  refine lv_iconst (v := 0) hx hb dX3_init_13 (by decide) ?_
  refine va_put (D := D) (ci := 3) (v := .int 0) (ty := tyC 3 1) (C := (clC 3).1) (T := (clC 3).2.1) (N := (clC 3).2.2) hx hb htb (cl_ws (Nat.le_of_ble_eq_true rfl)) (tyC 3) (cl_ty (Nat.le_of_ble_eq_true rfl)) (cl_nm (Nat.le_of_ble_eq_true rfl)) hown hK hP hD hS 0 rfl (cl_at (Nat.le_of_ble_eq_true rfl)) 1 (Nat.le_of_ble_eq_true rfl) (htb _ gf_RX3_15) (fun _ h9 => h9) rfl (cl_ty (Nat.le_of_ble_eq_true rfl) 1 (Nat.le_of_ble_eq_true rfl)) rfl rfl (Nat.le_of_ble_eq_true rfl) dX3_init_14 (fun H locs hP hD hS => ?_)
  have hP : va_P D vwCl [(h0, .inr (3, [.ref q7_1, .int 0, .int 0, .int 0, .int 0, .int 0])), (q7_1, .inl (cA 1, (120, .inl (fun _ => 0))))] H := hP
  have hD : va_D A [(h0, .inr (3, [.ref q7_1, .int 0, .int 0, .int 0, .int 0, .int 0])), (q7_1, .inl (cA 1, (120, .inl (fun _ => 0))))] := hD
  refine lv_aload_n hx hb dX3_init_17 rfl (lv_at hl 0 rfl) ?_
  refine lv_iconst (v := 0) hx hb dX3_init_18 (by decide) ?_
  refine va_put (D := D) (ci := 3) (v := .int 0) (ty := tyC 3 2) (C := (clC 3).1) (T := (clC 3).2.1) (N := (clC 3).2.2) hx hb htb (cl_ws (Nat.le_of_ble_eq_true rfl)) (tyC 3) (cl_ty (Nat.le_of_ble_eq_true rfl)) (cl_nm (Nat.le_of_ble_eq_true rfl)) hown hK hP hD hS 0 rfl (cl_at (Nat.le_of_ble_eq_true rfl)) 2 (Nat.le_of_ble_eq_true rfl) (htb _ gf_RX3_19) (fun _ h9 => h9) rfl (cl_ty (Nat.le_of_ble_eq_true rfl) 2 (Nat.le_of_ble_eq_true rfl)) rfl rfl (Nat.le_of_ble_eq_true rfl) dX3_init_19 (fun H locs hP hD hS => ?_)
  have hP : va_P D vwCl [(h0, .inr (3, [.ref q7_1, .int 0, .int 0, .int 0, .int 0, .int 0])), (q7_1, .inl (cA 1, (120, .inl (fun _ => 0))))] H := hP
  have hD : va_D A [(h0, .inr (3, [.ref q7_1, .int 0, .int 0, .int 0, .int 0, .int 0])), (q7_1, .inl (cA 1, (120, .inl (fun _ => 0))))] := hD
  refine lv_aload_n hx hb dX3_init_22 rfl (lv_at hl 0 rfl) ?_
  refine lv_iconst (v := 0) hx hb dX3_init_23 (by decide) ?_
  refine va_put (D := D) (ci := 3) (v := .int 0) (ty := tyC 3 3) (C := (clC 3).1) (T := (clC 3).2.1) (N := (clC 3).2.2) hx hb htb (cl_ws (Nat.le_of_ble_eq_true rfl)) (tyC 3) (cl_ty (Nat.le_of_ble_eq_true rfl)) (cl_nm (Nat.le_of_ble_eq_true rfl)) hown hK hP hD hS 0 rfl (cl_at (Nat.le_of_ble_eq_true rfl)) 3 (Nat.le_of_ble_eq_true rfl) (htb _ gf_RX3_22) (fun _ h9 => h9) rfl (cl_ty (Nat.le_of_ble_eq_true rfl) 3 (Nat.le_of_ble_eq_true rfl)) rfl rfl (Nat.le_of_ble_eq_true rfl) dX3_init_24 (fun H locs hP hD hS => ?_)
  have hP : va_P D vwCl [(h0, .inr (3, [.ref q7_1, .int 0, .int 0, .int 0, .int 0, .int 0])), (q7_1, .inl (cA 1, (120, .inl (fun _ => 0))))] H := hP
  have hD : va_D A [(h0, .inr (3, [.ref q7_1, .int 0, .int 0, .int 0, .int 0, .int 0])), (q7_1, .inl (cA 1, (120, .inl (fun _ => 0))))] := hD
  refine lv_aload_n hx hb dX3_init_27 rfl (lv_at hl 0 rfl) ?_
  refine lv_iconst (v := 5) hx hb dX3_init_28 (by decide) ?_
  refine va_put (D := D) (ci := 3) (v := .int 5) (ty := tyC 3 4) (C := (clC 3).1) (T := (clC 3).2.1) (N := (clC 3).2.2) hx hb htb (cl_ws (Nat.le_of_ble_eq_true rfl)) (tyC 3) (cl_ty (Nat.le_of_ble_eq_true rfl)) (cl_nm (Nat.le_of_ble_eq_true rfl)) hown hK hP hD hS 0 rfl (cl_at (Nat.le_of_ble_eq_true rfl)) 4 (Nat.le_of_ble_eq_true rfl) (htb _ gf_RX3_25) (fun _ h9 => h9) rfl (cl_ty (Nat.le_of_ble_eq_true rfl) 4 (Nat.le_of_ble_eq_true rfl)) rfl rfl (Nat.le_of_ble_eq_true rfl) dX3_init_29 (fun H locs hP hD hS => ?_)
  have hP : va_P D vwCl [(h0, .inr (3, [.ref q7_1, .int 0, .int 0, .int 0, .int 5, .int 0])), (q7_1, .inl (cA 1, (120, .inl (fun _ => 0))))] H := hP
  have hD : va_D A [(h0, .inr (3, [.ref q7_1, .int 0, .int 0, .int 0, .int 5, .int 0])), (q7_1, .inl (cA 1, (120, .inl (fun _ => 0))))] := hD
  refine lv_aload_n hx hb dX3_init_32 rfl (lv_at hl 0 rfl) ?_
  refine lv_iconst (v := 0) hx hb dX3_init_33 (by decide) ?_
  refine va_put (D := D) (ci := 3) (v := .int 0) (ty := tyC 3 5) (C := (clC 3).1) (T := (clC 3).2.1) (N := (clC 3).2.2) hx hb htb (cl_ws (Nat.le_of_ble_eq_true rfl)) (tyC 3) (cl_ty (Nat.le_of_ble_eq_true rfl)) (cl_nm (Nat.le_of_ble_eq_true rfl)) hown hK hP hD hS 0 rfl (cl_at (Nat.le_of_ble_eq_true rfl)) 5 (Nat.le_of_ble_eq_true rfl) (htb _ gf_RX3_28) (fun _ h9 => h9) rfl (cl_ty (Nat.le_of_ble_eq_true rfl) 5 (Nat.le_of_ble_eq_true rfl)) rfl rfl (Nat.le_of_ble_eq_true rfl) dX3_init_34 (fun H locs hP hD hS => ?_)
  have hP : va_P D vwCl [(h0, .inr (3, [.ref q7_1, .int 0, .int 0, .int 0, .int 5, .int 0])), (q7_1, .inl (cA 1, (120, .inl (fun _ => 0))))] H := hP
  have hD : va_D A [(h0, .inr (3, [.ref q7_1, .int 0, .int 0, .int 0, .int 5, .int 0])), (q7_1, .inl (cA 1, (120, .inl (fun _ => 0))))] := hD
  exact W.vret hx hb hr (fun t ht hW => ⟨⟨q7_1, rfl, trivial, by rw [ht]; exact hP, hD⟩, hS.F ht⟩) hS.2.2 dX3_init_37
set_option maxHeartbeats 8000000 in
set_option maxRecDepth 100000 in
theorem i_X4 (h0 h1 h2 : Nat) : CtI mX4_init 0 0 Unit [.ref h0, .ref h1, .ref h2] [(h0, .inr (4, [.null, .null]))] (fun _ _ => [(h0, .inr (4, [.ref h1, .ref h2]))]) := by
  intro l D cA sz
  refine Met.ofW (cc := mX4_init.2.1) (maxL := 3) (ret := none) (by decide) rfl ?_
  intro p e s m args below meth c s₁ B hml hv
  obtain ⟨rfl, hsz, hP, hK, hD0, hO⟩ := hv
  have hx := B.exec
  have hb := B.bytes
  have hr := B.returns
  have hts := atoms_spec (ws := wsM mX4_init) B.pre
  have htb := fun (w : Cond) (hw : w ∈ tb) => hts w (List.mem_cons_of_mem _ hw)
  have hown : s.vm.findClass RX4 = some m.cls := findClass_of_methodNamed B.named
  have hlocks := B.notSynchronized
  have hin : meth.name = "<init>" := (name_of_methodNamed B.named B.method).1
  subst hsz
  have hD := hD0.self (sz := s.heap.size)
  generalize hAe : va_A [(h0, .inr (4, [.null, .null]))] s.heap.size = A at hD ⊢
  have hA : ∀ q : Nat, s.heap.size ≤ q → A q := fun q h => by rw [← hAe]; exact Or.inr h
  have hS : va_S A s.heap s.heap [] := va_S.rf
  have hP : va_P D vwCl [(h0, .inr (4, [.null, .null]))] s.heap := hP
  have hl := lv_entry ([.ref h0, .ref h1, .ref h2]) (n := 3) (Nat.le_of_ble_eq_true rfl)
  rw [lg_entry_eq]
  generalize (lg_sl ([.ref h0, .ref h1, .ref h2]) ++ List.replicate (3 - (lg_sl ([.ref h0, .ref h1, .ref h2])).length) Slot.unset).toArray = ls at hl ⊢
  have hl : lv_has ls 3 [(0, .ref h0), (1, .ref h1), (2, .ref h2)] := hl
  refine lv_aload_n hx hb dX4_init_0 rfl (lv_at hl 0 rfl) ?_
  refine W.objInit hx hb hown (htb _ lO_RX4) (htb _ wOb_i) (htb _ wOb_c) rfl (by rw [hml]; exact hl.1) rfl dX4_init_1 (Nat.le_of_ble_eq_true rfl) (Nat.le_of_ble_eq_true rfl) ?_
  refine W.eq (g2 := F0 m 4 ls []) rfl ?_
  refine lv_aload_n hx hb dX4_init_4 rfl (lv_at hl 0 rfl) ?_
  refine lv_aload_n hx hb dX4_init_5 rfl (lv_at hl 1 rfl) ?_
  refine va_putF (D := D) (ci := 4) (v := .ref h1) (ty := tyC 4 0) (C := (clC 4).1) (T := (clC 4).2.1) (N := (clC 4).2.2) hx hb htb (cl_ws (Nat.le_of_ble_eq_true rfl)) (tyC 4) (cl_ty (Nat.le_of_ble_eq_true rfl)) (cl_nm (Nat.le_of_ble_eq_true rfl)) hown hK hP hD hS 0 rfl (cl_at (Nat.le_of_ble_eq_true rfl)) 0 (Nat.le_of_ble_eq_true rfl) (htb _ gf_RX4_9) (fun _ h9 => h9) rfl hin rfl (cl_ty (Nat.le_of_ble_eq_true rfl) 0 (Nat.le_of_ble_eq_true rfl)) rfl rfl (Nat.le_of_ble_eq_true rfl) dX4_init_6 (fun H locs hP hD hS => ?_)
  have hP : va_P D vwCl [(h0, .inr (4, [.ref h1, .null]))] H := hP
  have hD : va_D A [(h0, .inr (4, [.ref h1, .null]))] := hD
  refine lv_aload_n hx hb dX4_init_9 rfl (lv_at hl 0 rfl) ?_
  refine lv_aload_n hx hb dX4_init_10 rfl (lv_at hl 2 rfl) ?_
  refine va_putF (D := D) (ci := 4) (v := .ref h2) (ty := tyC 4 1) (C := (clC 4).1) (T := (clC 4).2.1) (N := (clC 4).2.2) hx hb htb (cl_ws (Nat.le_of_ble_eq_true rfl)) (tyC 4) (cl_ty (Nat.le_of_ble_eq_true rfl)) (cl_nm (Nat.le_of_ble_eq_true rfl)) hown hK hP hD hS 0 rfl (cl_at (Nat.le_of_ble_eq_true rfl)) 1 (Nat.le_of_ble_eq_true rfl) (htb _ gf_RX4_15) (fun _ h9 => h9) rfl hin rfl (cl_ty (Nat.le_of_ble_eq_true rfl) 1 (Nat.le_of_ble_eq_true rfl)) rfl rfl (Nat.le_of_ble_eq_true rfl) dX4_init_11 (fun H locs hP hD hS => ?_)
  have hP : va_P D vwCl [(h0, .inr (4, [.ref h1, .ref h2]))] H := hP
  have hD : va_D A [(h0, .inr (4, [.ref h1, .ref h2]))] := hD
  exact W.vret hx hb hr (fun t ht hW => ⟨⟨(), rfl, trivial, by rw [ht]; exact hP, hD⟩, hS.F ht⟩) hS.2.2 dX4_init_14
