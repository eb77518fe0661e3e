/-! the law's first rows -/
theorem ks {s : State} {b : Nat} (hts : ∀ w ∈ lw_tbl, w.before #[Value.ref b] s = true) : ∃ (D : va_G) (cA : Nat → ClassId), va_K D vwCl (tyL cA) s ∧ va_AO RX0 s ∧ va_AO RX2 s := by
  have htb := fun (w : Cond) (hw : w ∈ tb) => hts w (List.mem_filter.mp hw).1
  have m0 : Cond.arrayOver (.object RX0) ∈ lw_tbl := by decide +kernel
  have m2 : Cond.arrayOver (.object RX2) ∈ lw_tbl := by decide +kernel
  obtain ⟨c0, i0, k0⟩ := u_known (C := (clC 0).1) (T := (clC 0).2.1) (N := (clC 0).2.2) htb (cl_ws (Nat.le_of_ble_eq_true rfl)) (htb _ wI_0)
  obtain ⟨c1, i1, k1⟩ := u_known (C := (clC 1).1) (T := (clC 1).2.1) (N := (clC 1).2.2) htb (cl_ws (Nat.le_of_ble_eq_true rfl)) (htb _ wI_1)
  obtain ⟨c2, i2, k2⟩ := u_known (C := (clC 2).1) (T := (clC 2).2.1) (N := (clC 2).2.2) htb (cl_ws (Nat.le_of_ble_eq_true rfl)) (htb _ wI_2)
  obtain ⟨c3, i3, k3⟩ := u_known (C := (clC 3).1) (T := (clC 3).2.1) (N := (clC 3).2.2) htb (cl_ws (Nat.le_of_ble_eq_true rfl)) (htb _ wI_3)
  obtain ⟨c4, i4, k4⟩ := u_known (C := (clC 4).1) (T := (clC 4).2.1) (N := (clC 4).2.2) htb (cl_ws (Nat.le_of_ble_eq_true rfl)) (htb _ wI_4)
  obtain ⟨c5, i5, k5⟩ := u_known (C := (clC 5).1) (T := (clC 5).2.1) (N := (clC 5).2.2) htb (cl_ws (Nat.le_of_ble_eq_true rfl)) (htb _ wI_5)
  obtain ⟨c6, i6, k6⟩ := u_known (C := (clC 6).1) (T := (clC 6).2.1) (N := (clC 6).2.2) htb (cl_ws (Nat.le_of_ble_eq_true rfl)) (htb _ wI_6)
  obtain ⟨a0, ka0, p0, x0, y0, z0⟩ := Cond.arrayClass_spec (htb _ wA_int)
  obtain ⟨a1, ka1, p1, x1, y1, z1⟩ := Cond.arrayClass_spec (htb _ wA_byte)
  obtain ⟨p2, a2, ka2, w2, -, y2, z2, x2⟩ := Cond.arrayOver_spec (hts _ m0)
  obtain ⟨p3, a3, ka3, w3, -, y3, z3, x3⟩ := Cond.arrayOver_spec (hts _ m2)
  refine ⟨(fun c => [c0, c1, c2, c3, c4, c5, c6].getD c c0, fun c => [i0, i1, i2, i3, i4, i5, i6].getD c i0), fun t => [a0, a1, a2, a3].getD t a0, ⟨fun c q hq => ?_, fun k q hq => ?_⟩, va_AO.of (hts _ m0), va_AO.of (hts _ m2)⟩
  · have hc : c < 7 := (List.getElem?_eq_some_iff.mp hq).1
    rw [cl_at hc] at hq
    obtain rfl := Option.some.inj hq
    have h7 : c = 0 ∨ c = 1 ∨ c = 2 ∨ c = 3 ∨ c = 4 ∨ c = 5 ∨ c = 6 := by omega
    rcases h7 with rfl | rfl | rfl | rfl | rfl | rfl | rfl
    · exact k0
    · exact k1
    · exact k2
    · exact k3
    · exact k4
    · exact k5
    · exact k6
  · have hk : k < 4 := (List.getElem?_eq_some_iff.mp hq).1
    have h4 : k = 0 ∨ k = 1 ∨ k = 2 ∨ k = 3 := by omega
    rcases h4 with rfl | rfl | rfl | rfl
    · obtain rfl := Option.some.inj (show some (a0, FieldType.int) = some q from hq)
      exact ⟨fun n z => ⟨fun k h => (by cases h), ka0, y0, p0, z0⟩, x0⟩
    · obtain rfl := Option.some.inj (show some (a1, FieldType.byte) = some q from hq)
      exact ⟨fun n z => ⟨fun k h => (by cases h), ka1, y1, p1, z1⟩, x1⟩
    · obtain rfl := Option.some.inj (show some (a2, FieldType.object "SheafVotes$Farm") = some q from hq)
      exact ⟨fun n z => ⟨fun k h => (by cases h), ka2, y2, p2, z2⟩, ka2, p2, y2, z2, w2, x2⟩
    · obtain rfl := Option.some.inj (show some (a3, FieldType.object "SheafVotes$Sheet") = some q from hq)
      exact ⟨fun n z => ⟨fun k h => (by cases h), ka3, y3, p3, z3⟩, ka3, p3, y3, z3, w3, x3⟩
def lw_At (p : Program) (s : State) (m : MethodId) (meth : Method) (c : Code) (b L : Nat) (xs : Nat → Int32) : Prop :=
  p.tables.exec = Jvm.exec ∧ c.code = code ∧ meth.sig.returnType = ret ∧ c.maxLocals = 4 ∧ s.vm.findClass R_law = some m.cls ∧ (∀ w ∈ lw_tbl, w.before #[Value.ref b] s = true) ∧ va_X b L xs s s.heap ∧ b < s.heap.size ∧ meth.locks = false ∧ (Jvm.Cond.and given_1 narrow_1).before #[Value.ref b] s = true
theorem law_fin {p : Program} {l : Launch} {e : Env} {s : State} {m : MethodId} {below : List Frame} {meth : Method} {c : Code} {b L : Nat} {xs : Nat → Int32} {D : va_G} {cA : Nat → ClassId} {h0 h1 : Nat} {u : (Nat → Nat) × (Nat → Nat) × (Nat → Nat) × (Nat → Nat)} {v : Nat → Nat} {H : Heap} {locs : List Loc} {ls : Array Slot} (hL : L ≤ 3072) (C0 : lw_At p s m meth c b L xs) (hK : va_K D vwCl (tyL cA) s) (hP : va_P D vwCl (shfW cA h0 u ++ refW cA h1 v) H) (hD : va_D (fun q => s.heap.size ≤ q) (shfW cA h0 u ++ refW cA h1 v)) (hS : va_S (fun q => s.heap.size ≤ q) s.heap H locs) (hl : lv_has ls 4 [(3, .int 0), (2, .ref h1), (1, .ref h0), (0, .ref b)]) : W p l e room_1 s m #[Value.ref b] below meth c H locs 62 1317 (lw_Z below #[Value.ref b] s) (F0 m 18 ls []) := by
  obtain ⟨hx, hb, hr, hml, hown, hts, hX, hbs, hlocks, hgv⟩ := C0
  have htb := fun (w : Cond) (hw : w ∈ tb) => hts w (List.mem_filter.mp hw).1
  obtain ⟨a1, aK, aV, a9, hgl⟩ := gv_all hts hgv
  obtain ⟨hge, hin⟩ := cv_A (b := b) (a9 := a9) (a1 := a1) (aK := aK) (aV := aV) (D := D) hD
  have hPc := cv_P (b := b) (a9 := a9) (a1 := a1) (aK := aK) (aV := aV) hP
  have hSt := hgl (gS b a9 a1 aK aV h0 h1 u v D cA) (fun t ht => gS_1 ht) (fun i hi => gS_K hi) (fun i hi => gS_V hi) rfl hge
  refine va_forget (fun q hq => hS.2.2 q hq) (W.widen (k := 600000) (n := 7302250) (Nat.le_of_ble_eq_true rfl) (Nat.le_of_ble_eq_true rfl) ?_)
  refine law_18 (b := b) (L := L) (xs := xs) hL (L + 1) 0 mem0 (by omega) (by omega) J0 (gS b a9 a1 aK aV h0 h1 u v D cA) p l e s m #[Value.ref b] below meth c H [] ls ⟨hx, hb, hr, hml, hown, htb, hlocks, ⟨hK, hin⟩, hSt, rfl, rfl, hX, hbs, hge⟩ hPc ⟨hS.1, fun q hq _ => hS.2.1 q hq (Nat.not_le.mpr hq), fun _ h => absurd h List.not_mem_nil⟩ ⟨hl.1, hl.2.1, fun i w hw => ?_⟩
  have hi : i < 4 := (List.getElem?_eq_some_iff.mp hw).1
  have h4 : i = 0 ∨ i = 1 ∨ i = 2 ∨ i = 3 := by omega
  rcases h4 with rfl | rfl | rfl | rfl
  · obtain rfl := Option.some.inj (Option.some.inj (show some (some (Value.ref 900)) = some (some w) from hw))
    exact hl.2.2 (0, .ref b) (by simp)
  · obtain rfl := Option.some.inj (Option.some.inj (show some (some (Value.ref 0)) = some (some w) from hw))
    exact hl.2.2 (1, .ref h0) (by simp)
  · obtain rfl := Option.some.inj (Option.some.inj (show some (some (Value.ref 50)) = some (some w) from hw))
    exact hl.2.2 (2, .ref h1) (by simp)
  · obtain rfl := Option.some.inj (Option.some.inj (show some (some (Value.int (nI 0))) = some (some w) from hw))
    exact hl.2.2 (3, .int 0) (by simp)
set_option maxHeartbeats 8000000 in
set_option maxRecDepth 100000 in
theorem whole_start {p : Program} {e : Env} {s : State} {m : MethodId} {below : List Frame} {meth : Method} {c : Code} (l : Launch) (hflags : l.flags = flags0) {b L : Nat} {xs : Nat → Int32} (hL : L ≤ 3072) (C0 : lw_At p s m meth c b L xs) : W p l e room_1 s m #[Value.ref b] below meth c s.heap [] 0 0 (lw_Z below #[Value.ref b] s) (entryFrame m ([Value.ref b] : List Value).toArray 4) := by
  obtain ⟨hx, hb, hr, hml, hown, hts, -⟩ := id C0
  have htb := fun (w : Cond) (hw : w ∈ tb) => hts w (List.mem_filter.mp hw).1
  obtain ⟨D, cA, hK, hO⟩ := ks hts
  have hb : c.code = mL.2.1 := hb
  have hml : c.maxLocals = mL.2.2.1 := hml
  have hown : s.vm.findClass RL = some m.cls := hown
  have hA : ∀ q : Nat, s.heap.size ≤ q → (fun q : Nat => s.heap.size ≤ q) q := fun _ h => h
  have hS : va_S (fun q : Nat => s.heap.size ≤ q) s.heap s.heap [] := va_S.rf
  have hP : va_P D vwCl [] s.heap := fun k q h => by simp at h
  have hD : va_D (fun q : Nat => s.heap.size ≤ q) [] := ⟨fun i j p q h => by simp at h, fun k q h => by simp at h⟩
  have hl := lv_entry ([.ref b]) (n := 4) (Nat.le_of_ble_eq_true rfl)
  rw [lg_entry_eq]
  generalize (lg_sl ([.ref b]) ++ List.replicate (4 - (lg_sl ([.ref b])).length) Slot.unset).toArray = ls at hl ⊢
  have hl : lv_has ls 4 [(0, .ref b)] := hl
  refine va_new (ci := 5) (fs := [.null, .null, .null, .null, .null, .null, .null, .int 0]) (C := (clC 5).1) (T := (clC 5).2.1) (N := (clC 5).2.2) hx hb htb (cl_ws (Nat.le_of_ble_eq_true rfl)) (tyC 5) (cl_ty (Nat.le_of_ble_eq_true rfl)) hown (htb _ wC_RL_7) (htb _ wI_5) (htb _ in_RX5) hK hP hD hS hA (cl_at (Nat.le_of_ble_eq_true rfl)) df_5 (Nat.le_of_ble_eq_true rfl) (Nat.le_of_ble_eq_true rfl) dL_law_0 (fun q0_1 H hP hD hS => ?_)
  have hP : va_P D vwCl [(q0_1, .inr (5, [.null, .null, .null, .null, .null, .null, .null, .int 0]))] H := hP
  have hD : va_D (fun q => s.heap.size ≤ q) [(q0_1, .inr (5, [.null, .null, .null, .null, .null, .null, .null, .int 0]))] := hD
  refine lv_dup hx hb dL_law_3 rfl ?_
  refine ct_call (M := mL) (wr := []) hx hb hml hown htb (i_X5 q0_1) okX5_init rfl rfl viX5_init lI_RL_9 ⟨Nat.le_of_ble_eq_true rfl, Nat.le_of_ble_eq_true rfl⟩ ⟨Nat.le_of_ble_eq_true rfl, Nat.le_of_ble_eq_true rfl⟩ rfl hl.1 rfl (Nat.le_of_ble_eq_true rfl) dL_law_4 hP hD hK hO hS hA 0 [] rfl rfl (by decide +kernel) (by decide +kernel) (fun u4_2 H locs hP hD hS => ?_)
  have hP : va_P D vwCl (shfW cA q0_1 u4_2) H := hP
  have hD : va_D (fun q => s.heap.size ≤ q) (shfW cA q0_1 u4_2) := hD
  refine lv_astore_n (lv' := [(1, .ref q0_1), (0, .ref b)]) hx hb dL_law_7 rfl hl (by decide) rfl (fun ls hl => ?_)
  refine va_new (ci := 6) (fs := [.null, .null, .null, .null, .int 0, .null, .null, .int 0, .null, .null, .null, .null, .null, .int 0, .int 0, .int 0, .int 0, .int 0, .int 0, .int 0]) (C := (clC 6).1) (T := (clC 6).2.1) (N := (clC 6).2.2) hx hb htb (cl_ws (Nat.le_of_ble_eq_true rfl)) (tyC 6) (cl_ty (Nat.le_of_ble_eq_true rfl)) hown (htb _ wC_RL_10) (htb _ wI_6) (htb _ in_RX6) hK hP hD hS hA (cl_at (Nat.le_of_ble_eq_true rfl)) df_6 (Nat.le_of_ble_eq_true rfl) (Nat.le_of_ble_eq_true rfl) dL_law_8 (fun q8_3 H hP hD hS => ?_)
  have hP : va_P D vwCl ((shfW cA q0_1 u4_2) ++ [(q8_3, .inr (6, [.null, .null, .null, .null, .int 0, .null, .null, .int 0, .null, .null, .null, .null, .null, .int 0, .int 0, .int 0, .int 0, .int 0, .int 0, .int 0]))]) H := hP
  have hD : va_D (fun q => s.heap.size ≤ q) ((shfW cA q0_1 u4_2) ++ [(q8_3, .inr (6, [.null, .null, .null, .null, .int 0, .null, .null, .int 0, .null, .null, .null, .null, .null, .int 0, .int 0, .int 0, .int 0, .int 0, .int 0, .int 0]))]) := hD
  refine lv_dup hx hb dL_law_11 rfl ?_
  refine ct_call (M := mL) (wr := (shfW cA q0_1 u4_2)) hx hb hml hown htb (i_X6 q8_3) okX6_init rfl rfl viX6_init lI_RL_12 ⟨Nat.le_of_ble_eq_true rfl, Nat.le_of_ble_eq_true rfl⟩ ⟨Nat.le_of_ble_eq_true rfl, Nat.le_of_ble_eq_true rfl⟩ rfl hl.1 rfl (Nat.le_of_ble_eq_true rfl) dL_law_12 hP hD hK hO hS hA 50 [0, 1, 2, 3, 4, 5, 6, 7, 8, 9, 10, 11, 12, 13, 14, 15, 16, 17, 18, 19, 20, 21, 22, 23, 24, 25, 26, 27, 28, 29, 30, 31, 32, 33, 34, 35, 36, 37, 38, 39, 40, 41, 42, 43, 44, 45, 46, 47, 48, 49] rfl rfl (by decide +kernel) (by decide +kernel) (fun u12_4 H locs hP hD hS => ?_)
  have hP : va_P D vwCl ((shfW cA q0_1 u4_2) ++ (refW cA q8_3 u12_4)) H := hP
  have hD : va_D (fun q => s.heap.size ≤ q) ((shfW cA q0_1 u4_2) ++ (refW cA q8_3 u12_4)) := hD
  refine lv_astore_n (lv' := [(2, .ref q8_3), (1, .ref q0_1), (0, .ref b)]) hx hb dL_law_15 rfl hl (by decide) rfl (fun ls hl => ?_)
  refine lv_iconst (v := 0) hx hb dL_law_16 (by decide) ?_
  refine lv_istore_n (lv' := [(3, .int 0), (2, .ref q8_3), (1, .ref q0_1), (0, .ref b)]) hx hb dL_law_17 rfl hl (by decide) rfl (fun ls hl => ?_)
  exact law_fin hL C0 hK hP hD hS hl
