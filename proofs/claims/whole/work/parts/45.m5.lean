/-! the reference: queries -/
theorem and_1 (x : Int32) : x &&& 1 = 0 ∨ x &&& 1 = 1 := by
  have : ∀ b : BitVec 32, b &&& 1#32 = 0#32 ∨ b &&& 1#32 = 1#32 := by
    intro b
    have e : (b &&& 1#32).toNat = b.toNat % 2 := by
      rw [BitVec.toNat_and, show (1#32).toNat = 1 from rfl, Nat.and_one_is_mod]
    rcases Nat.mod_two_eq_zero_or_one b.toNat with c | c
    · exact Or.inl (BitVec.eq_of_toNat_eq (by rw [e, c]; rfl))
    · exact Or.inr (BitVec.eq_of_toNat_eq (by rw [e, c]; rfl))
  rcases this x.toBitVec with h | h
  · exact Or.inl (Int32.toBitVec_inj.mp h)
  · exact Or.inr (Int32.toBitVec_inj.mp h)
theorem bit_z (x f : Int32) : (x >>> (f &&& 31)) &&& 1 = 0 ↔ bitI x f = 0 := by
  unfold bitI
  rcases and_1 (x >>> (f &&& 31)) with h | h
  · rw [h]; decide
  · rw [h]; decide
def ansR (r : Nat → Int32) (n : Nat) (q : Int32) : Int32 := if leanR r n (lastS (DR r) n) < q then 0 else 1
set_option maxHeartbeats 4000000 in
theorem c6_holder {n : Nat} {mem : Mem} (h : MO mem n) (a : Int32) : CnI mX6_holder [.ref 50, .int a] mem (fun x m' => (inR a 0 60 = 0 ∧ x = -1000001 ∧ m' = fndM mem 0) ∨ (∃ y, y ≤ 60 ∧ a = nI y ∧ x = lastS (DR (yrsR (mem 51) n y)) n ∧ QM mem m')) := by
  have h8 := h.2.1
  have hR := MO_R.mp h
  have hA : RW (rowC mem 51 54) (yrsR (mem 51) n 0) (rowC mem 51 54) := by
    have := RW.rf (rowC mem 51 54)
    rw [asd_51] at this
    exact this
  refine Cn.of (ls := [some (.ref 50), some (.int a), none]) (by decide) rfl (Nat.le_of_ble_eq_true rfl) ?_
  refine w_iload_n (i := 1) (n' := 1) dX6_holder_0 rfl rfl rfl ?_
  refine s_E (n' := 4) dX6_holder_1 rfl lRX6_159 okX6_isLong stX6_isLong ⟨⟨Nat.le_of_ble_eq_true rfl, Nat.le_of_ble_eq_true rfl⟩, Nat.le_of_ble_eq_true rfl, Nat.le_of_ble_eq_true rfl⟩ (c6_isLong _ _) rfl rfl (Nat.le_of_ble_eq_true rfl) ?_
  refine w_if_ne (n' := 7) (tgt := 14) dX6_holder_4 rfl rfl (fun h4 => ?_) (fun h4 => ?_)
  · obtain ⟨y, hy1, hy2⟩ := inR_of (N := 60) (by decide) h4
    subst hy2
    refine w_aload_n (i := 0) (n' := 15) dX6_holder_14 rfl rfl rfl ?_
    refine w_get (ci := 6) (j := 0) (n' := 18) dX6_holder_15 rfl fRX6_7 (Nat.le_of_ble_eq_true rfl) (Nat.le_of_ble_eq_true rfl) rfl rfl ?_
    refine w_aload_n (i := 0) (n' := 19) dX6_holder_18 rfl rfl rfl ?_
    refine w_get (ci := 6) (j := 3) (n' := 22) dX6_holder_19 rfl fRX6_19 (Nat.le_of_ble_eq_true rfl) (Nat.le_of_ble_eq_true rfl) rfl rfl ?_
    refine s_E (n' := 25) dX6_holder_22 rfl lRX6_162 okX6_copyRow stX6_copyRow ⟨⟨Nat.le_of_ble_eq_true rfl, Nat.le_of_ble_eq_true rfl⟩, Nat.le_of_ble_eq_true rfl, Nat.le_of_ble_eq_true rfl⟩ (c6_copyRow (a := 51) (b := 54) rfl rfl rfl rfl (by decide) _) rfl rfl (Nat.le_of_ble_eq_true rfl) ?_
    refine w_aload_n (i := 0) (n' := 26) dX6_holder_25 rfl rfl rfl ?_
    refine w_iload_n (i := 1) (n' := 27) dX6_holder_26 rfl rfl rfl ?_
    refine v_V (ci := 6) (n' := 30) dX6_holder_27 rfl lRX6_149 okX6_years voX6_years ⟨⟨Nat.le_of_ble_eq_true rfl, Nat.le_of_ble_eq_true rfl⟩, Nat.le_of_ble_eq_true rfl, Nat.le_of_ble_eq_true rfl⟩ (c6_years (asd_MO h) (show y ≤ 1000 by omega)) rfl rfl (Nat.le_of_ble_eq_true rfl) rfl (Nat.le_of_ble_eq_true rfl) rfl (fun m27 q27 => ?_)
    rw [asd_51] at q27
    have hp := q27.MO (MOR_yrs hR y)
    refine w_aload_n (i := 0) (n' := 31) dX6_holder_30 rfl rfl rfl ?_
    refine v_E (ci := 6) (n' := 34) dX6_holder_31 rfl lRX6_119 okX6_lasts voX6_lasts ⟨⟨Nat.le_of_ble_eq_true rfl, Nat.le_of_ble_eq_true rfl⟩, Nat.le_of_ble_eq_true rfl, Nat.le_of_ble_eq_true rfl⟩ (c6_lasts hp) rfl rfl (Nat.le_of_ble_eq_true rfl) rfl (Nat.le_of_ble_eq_true rfl) rfl ?_
    refine w_istore_n (i := 2) (n' := 35) (ls' := [_, _, _]) dX6_holder_34 rfl rfl (Nat.le_of_ble_eq_true rfl) rfl rfl ?_
    refine w_aload_n (i := 0) (n' := 36) dX6_holder_35 rfl rfl rfl ?_
    refine w_get (ci := 6) (j := 3) (n' := 39) dX6_holder_36 rfl fRX6_19 (Nat.le_of_ble_eq_true rfl) (Nat.le_of_ble_eq_true rfl) rfl rfl ?_
    refine w_aload_n (i := 0) (n' := 40) dX6_holder_39 rfl rfl rfl ?_
    refine w_get (ci := 6) (j := 0) (n' := 43) dX6_holder_40 rfl fRX6_7 (Nat.le_of_ble_eq_true rfl) (Nat.le_of_ble_eq_true rfl) rfl rfl ?_
    refine s_E (n' := 46) dX6_holder_43 rfl lRX6_162 okX6_copyRow stX6_copyRow ⟨⟨Nat.le_of_ble_eq_true rfl, Nat.le_of_ble_eq_true rfl⟩, Nat.le_of_ble_eq_true rfl, Nat.le_of_ble_eq_true rfl⟩ (c6_copyRow (a := 54) (b := 51) rfl rfl rfl rfl (by decide) _) rfl rfl (Nat.le_of_ble_eq_true rfl) ?_
    refine w_iload_n (i := 2) (n' := 47) dX6_holder_46 rfl rfl rfl ?_
    exact w_iret dX6_holder_47 rfl ⟨_, rfl, Or.inr ⟨y, hy1, rfl, by rw [q27.DM], QM.back q27.cd rfl⟩⟩
  · refine w_aload_n (i := 0) (n' := 8) dX6_holder_7 rfl rfl rfl ?_
    refine w_ldc (v := -1000001) (n' := 10) dX6_holder_8 rfl kRX6_43 ?_
    refine v_E (ci := 6) (n' := 13) dX6_holder_10 rfl lRX6_45 okX6_finds voX6_finds ⟨⟨Nat.le_of_ble_eq_true rfl, Nat.le_of_ble_eq_true rfl⟩, Nat.le_of_ble_eq_true rfl, Nat.le_of_ble_eq_true rfl⟩ (c6_finds 0 _ (by decide) (by decide) _) rfl rfl (Nat.le_of_ble_eq_true rfl) rfl (Nat.le_of_ble_eq_true rfl) rfl ?_
    exact w_iret dX6_holder_13 rfl ⟨_, rfl, Or.inl ⟨by simpa using h4, rfl, rfl⟩⟩
set_option maxHeartbeats 4000000 in
theorem c6_leans {n : Nat} {mem : Mem} (h : MO mem n) (a : Int32) : CnI mX6_leans [.ref 50, .int a] mem (fun x m' => (inR a 0 60 = 0 ∧ x = -1000001 ∧ m' = fndM mem 0) ∨ (∃ y, y ≤ 60 ∧ a = nI y ∧ x = leanR (yrsR (mem 51) n y) n (lastS (DR (yrsR (mem 51) n y)) n) ∧ QM mem m')) := by
  have h8 := h.2.1
  have hR := MO_R.mp h
  have hA : RW (rowC mem 51 54) (yrsR (mem 51) n 0) (rowC mem 51 54) := by
    have := RW.rf (rowC mem 51 54)
    rw [asd_51] at this
    exact this
  refine Cn.of (ls := [some (.ref 50), some (.int a), none]) (by decide) rfl (Nat.le_of_ble_eq_true rfl) ?_
  refine w_iload_n (i := 1) (n' := 1) dX6_leans_0 rfl rfl rfl ?_
  refine s_E (n' := 4) dX6_leans_1 rfl lRX6_159 okX6_isLong stX6_isLong ⟨⟨Nat.le_of_ble_eq_true rfl, Nat.le_of_ble_eq_true rfl⟩, Nat.le_of_ble_eq_true rfl, Nat.le_of_ble_eq_true rfl⟩ (c6_isLong _ _) rfl rfl (Nat.le_of_ble_eq_true rfl) ?_
  refine w_if_ne (n' := 7) (tgt := 14) dX6_leans_4 rfl rfl (fun h4 => ?_) (fun h4 => ?_)
  · obtain ⟨y, hy1, hy2⟩ := inR_of (N := 60) (by decide) h4
    subst hy2
    refine w_aload_n (i := 0) (n' := 15) dX6_leans_14 rfl rfl rfl ?_
    refine w_get (ci := 6) (j := 0) (n' := 18) dX6_leans_15 rfl fRX6_7 (Nat.le_of_ble_eq_true rfl) (Nat.le_of_ble_eq_true rfl) rfl rfl ?_
    refine w_aload_n (i := 0) (n' := 19) dX6_leans_18 rfl rfl rfl ?_
    refine w_get (ci := 6) (j := 3) (n' := 22) dX6_leans_19 rfl fRX6_19 (Nat.le_of_ble_eq_true rfl) (Nat.le_of_ble_eq_true rfl) rfl rfl ?_
    refine s_E (n' := 25) dX6_leans_22 rfl lRX6_162 okX6_copyRow stX6_copyRow ⟨⟨Nat.le_of_ble_eq_true rfl, Nat.le_of_ble_eq_true rfl⟩, Nat.le_of_ble_eq_true rfl, Nat.le_of_ble_eq_true rfl⟩ (c6_copyRow (a := 51) (b := 54) rfl rfl rfl rfl (by decide) _) rfl rfl (Nat.le_of_ble_eq_true rfl) ?_
    refine w_aload_n (i := 0) (n' := 26) dX6_leans_25 rfl rfl rfl ?_
    refine w_iload_n (i := 1) (n' := 27) dX6_leans_26 rfl rfl rfl ?_
    refine v_V (ci := 6) (n' := 30) dX6_leans_27 rfl lRX6_149 okX6_years voX6_years ⟨⟨Nat.le_of_ble_eq_true rfl, Nat.le_of_ble_eq_true rfl⟩, Nat.le_of_ble_eq_true rfl, Nat.le_of_ble_eq_true rfl⟩ (c6_years (asd_MO h) (show y ≤ 1000 by omega)) rfl rfl (Nat.le_of_ble_eq_true rfl) rfl (Nat.le_of_ble_eq_true rfl) rfl (fun m27 q27 => ?_)
    rw [asd_51] at q27
    have hp := q27.MO (MOR_yrs hR y)
    refine w_aload_n (i := 0) (n' := 31) dX6_leans_30 rfl rfl rfl ?_
    refine v_E (ci := 6) (n' := 34) dX6_leans_31 rfl lRX6_131 okX6_leanNow voX6_leanNow ⟨⟨Nat.le_of_ble_eq_true rfl, Nat.le_of_ble_eq_true rfl⟩, Nat.le_of_ble_eq_true rfl, Nat.le_of_ble_eq_true rfl⟩ (c6_leanNow hp) rfl rfl (Nat.le_of_ble_eq_true rfl) rfl (Nat.le_of_ble_eq_true rfl) rfl ?_
    refine w_istore_n (i := 2) (n' := 35) (ls' := [_, _, _]) dX6_leans_34 rfl rfl (Nat.le_of_ble_eq_true rfl) rfl rfl ?_
    refine w_aload_n (i := 0) (n' := 36) dX6_leans_35 rfl rfl rfl ?_
    refine w_get (ci := 6) (j := 3) (n' := 39) dX6_leans_36 rfl fRX6_19 (Nat.le_of_ble_eq_true rfl) (Nat.le_of_ble_eq_true rfl) rfl rfl ?_
    refine w_aload_n (i := 0) (n' := 40) dX6_leans_39 rfl rfl rfl ?_
    refine w_get (ci := 6) (j := 0) (n' := 43) dX6_leans_40 rfl fRX6_7 (Nat.le_of_ble_eq_true rfl) (Nat.le_of_ble_eq_true rfl) rfl rfl ?_
    refine s_E (n' := 46) dX6_leans_43 rfl lRX6_162 okX6_copyRow stX6_copyRow ⟨⟨Nat.le_of_ble_eq_true rfl, Nat.le_of_ble_eq_true rfl⟩, Nat.le_of_ble_eq_true rfl, Nat.le_of_ble_eq_true rfl⟩ (c6_copyRow (a := 54) (b := 51) rfl rfl rfl rfl (by decide) _) rfl rfl (Nat.le_of_ble_eq_true rfl) ?_
    refine w_iload_n (i := 2) (n' := 47) dX6_leans_46 rfl rfl rfl ?_
    exact w_iret dX6_leans_47 rfl ⟨_, rfl, Or.inr ⟨y, hy1, rfl, by rw [q27.lean, q27.DM], QM.back q27.cd rfl⟩⟩
  · refine w_aload_n (i := 0) (n' := 8) dX6_leans_7 rfl rfl rfl ?_
    refine w_ldc (v := -1000001) (n' := 10) dX6_leans_8 rfl kRX6_43 ?_
    refine v_E (ci := 6) (n' := 13) dX6_leans_10 rfl lRX6_45 okX6_finds voX6_finds ⟨⟨Nat.le_of_ble_eq_true rfl, Nat.le_of_ble_eq_true rfl⟩, Nat.le_of_ble_eq_true rfl, Nat.le_of_ble_eq_true rfl⟩ (c6_finds 0 _ (by decide) (by decide) _) rfl rfl (Nat.le_of_ble_eq_true rfl) rfl (Nat.le_of_ble_eq_true rfl) rfl ?_
    exact w_iret dX6_leans_13 rfl ⟨_, rfl, Or.inl ⟨by simpa using h4, rfl, rfl⟩⟩
set_option maxHeartbeats 4000000 in
theorem c6_ahead {n : Nat} {mem : Mem} (h : MO mem n) (f a b : Int32) : CnI mX6_ahead [.ref 50, .int f, .int a, .int b] mem (fun x m' => ((inR f 0 (nI n - 1) = 0 ∨ inR a 2 4 = 0 ∨ inR b 0 60 = 0) ∧ x = -1000001 ∧ m' = fndM mem 0) ∨ (¬ inR a 2 4 = 0 ∧ ∃ i j, i < n ∧ 2 ≤ j ∧ j ≤ 4 ∧ f = nI i ∧ a = nI j ∧ ∃ y, y ≤ 60 ∧ b = nI y ∧ x = yrsR (mem 51) n y (6 + 5 * i + j) ∧ QM mem m')) := by
  have h8 := h.2.1
  have hR := MO_R.mp h
  have hA : RW (rowC mem 51 54) (yrsR (mem 51) n 0) (rowC mem 51 54) := by
    have := RW.rf (rowC mem 51 54)
    rw [asd_51] at this
    exact this
  refine Cn.of (ls := [some (.ref 50), some (.int f), some (.int a), some (.int b), none]) (by decide) rfl (Nat.le_of_ble_eq_true rfl) ?_
  refine w_aload_n (i := 0) (n' := 1) dX6_ahead_0 rfl rfl rfl ?_
  refine w_iload_n (i := 1) (n' := 2) dX6_ahead_1 rfl rfl rfl ?_
  refine v_E (ci := 6) (n' := 5) dX6_ahead_2 rfl lRX6_82 okX6_isFarm voX6_isFarm ⟨⟨Nat.le_of_ble_eq_true rfl, Nat.le_of_ble_eq_true rfl⟩, Nat.le_of_ble_eq_true rfl, Nat.le_of_ble_eq_true rfl⟩ (c6_isFarm h.1 h.2.1 _) rfl rfl (Nat.le_of_ble_eq_true rfl) rfl (Nat.le_of_ble_eq_true rfl) rfl ?_
  refine w_if_eq (n' := 8) (tgt := 29) dX6_ahead_5 rfl rfl (fun h5 => ?_) (fun h5 => ?_)
  · refine w_aload_n (i := 0) (n' := 30) dX6_ahead_29 rfl rfl rfl ?_
    refine w_ldc (v := -1000001) (n' := 32) dX6_ahead_30 rfl kRX6_43 ?_
    refine v_E (ci := 6) (n' := 35) dX6_ahead_32 rfl lRX6_45 okX6_finds voX6_finds ⟨⟨Nat.le_of_ble_eq_true rfl, Nat.le_of_ble_eq_true rfl⟩, Nat.le_of_ble_eq_true rfl, Nat.le_of_ble_eq_true rfl⟩ (c6_finds 0 _ (by decide) (by decide) _) rfl rfl (Nat.le_of_ble_eq_true rfl) rfl (Nat.le_of_ble_eq_true rfl) rfl ?_
    exact w_iret dX6_ahead_35 rfl ⟨_, rfl, Or.inl ⟨Or.inl h5, rfl, rfl⟩⟩
  · obtain ⟨i, hi1, hi2⟩ := hasF_of (n := n) (by omega) h5
    subst hi2
    refine w_iload_n (i := 2) (n' := 9) dX6_ahead_8 rfl rfl rfl ?_
    refine w_i2l (v := _) (n' := 10) dX6_ahead_9 rfl rfl ?_
    refine w_ldc2 (v := 2) (n' := 13) dX6_ahead_10 rfl kRX6_49 ?_
    refine w_ldc2 (v := 4) (n' := 16) dX6_ahead_13 rfl kRX6_166 ?_
    refine s_E (n' := 19) dX6_ahead_16 rfl lRX6_51 okX6_isIn stX6_isIn ⟨⟨Nat.le_of_ble_eq_true rfl, Nat.le_of_ble_eq_true rfl⟩, Nat.le_of_ble_eq_true rfl, Nat.le_of_ble_eq_true rfl⟩ (c6_isIn _ (2) (4) _ _ (by decide) (by decide) _) rfl rfl (Nat.le_of_ble_eq_true rfl) ?_
    refine w_if_eq (n' := 22) (tgt := 29) dX6_ahead_19 rfl rfl (fun h19 => ?_) (fun h19 => ?_)
    · refine w_aload_n (i := 0) (n' := 30) dX6_ahead_29 rfl rfl rfl ?_
      refine w_ldc (v := -1000001) (n' := 32) dX6_ahead_30 rfl kRX6_43 ?_
      refine v_E (ci := 6) (n' := 35) dX6_ahead_32 rfl lRX6_45 okX6_finds voX6_finds ⟨⟨Nat.le_of_ble_eq_true rfl, Nat.le_of_ble_eq_true rfl⟩, Nat.le_of_ble_eq_true rfl, Nat.le_of_ble_eq_true rfl⟩ (c6_finds 0 _ (by decide) (by decide) _) rfl rfl (Nat.le_of_ble_eq_true rfl) rfl (Nat.le_of_ble_eq_true rfl) rfl ?_
      exact w_iret dX6_ahead_35 rfl ⟨_, rfl, Or.inl ⟨Or.inr (Or.inl h19), rfl, rfl⟩⟩
    · obtain ⟨j, hj0, hj1, hj2⟩ := inR_1 (K := 2) (N := 4) (by decide) (by decide) h19
      subst hj2
      refine w_iload_n (i := 3) (n' := 23) dX6_ahead_22 rfl rfl rfl ?_
      refine s_E (n' := 26) dX6_ahead_23 rfl lRX6_159 okX6_isLong stX6_isLong ⟨⟨Nat.le_of_ble_eq_true rfl, Nat.le_of_ble_eq_true rfl⟩, Nat.le_of_ble_eq_true rfl, Nat.le_of_ble_eq_true rfl⟩ (c6_isLong _ _) rfl rfl (Nat.le_of_ble_eq_true rfl) ?_
      refine w_if_ne (n' := 29) (tgt := 36) dX6_ahead_26 rfl rfl (fun h26 => ?_) (fun h26 => ?_)
      · obtain ⟨y, hy1, hy2⟩ := inR_of (N := 60) (by decide) h26
        subst hy2
        refine w_aload_n (i := 0) (n' := 37) dX6_ahead_36 rfl rfl rfl ?_
        refine w_get (ci := 6) (j := 0) (n' := 40) dX6_ahead_37 rfl fRX6_7 (Nat.le_of_ble_eq_true rfl) (Nat.le_of_ble_eq_true rfl) rfl rfl ?_
        refine w_aload_n (i := 0) (n' := 41) dX6_ahead_40 rfl rfl rfl ?_
        refine w_get (ci := 6) (j := 3) (n' := 44) dX6_ahead_41 rfl fRX6_19 (Nat.le_of_ble_eq_true rfl) (Nat.le_of_ble_eq_true rfl) rfl rfl ?_
        refine s_E (n' := 47) dX6_ahead_44 rfl lRX6_162 okX6_copyRow stX6_copyRow ⟨⟨Nat.le_of_ble_eq_true rfl, Nat.le_of_ble_eq_true rfl⟩, Nat.le_of_ble_eq_true rfl, Nat.le_of_ble_eq_true rfl⟩ (c6_copyRow (a := 51) (b := 54) rfl rfl rfl rfl (by decide) _) rfl rfl (Nat.le_of_ble_eq_true rfl) ?_
        refine w_aload_n (i := 0) (n' := 48) dX6_ahead_47 rfl rfl rfl ?_
        refine w_iload_n (i := 3) (n' := 49) dX6_ahead_48 rfl rfl rfl ?_
        refine v_V (ci := 6) (n' := 52) dX6_ahead_49 rfl lRX6_149 okX6_years voX6_years ⟨⟨Nat.le_of_ble_eq_true rfl, Nat.le_of_ble_eq_true rfl⟩, Nat.le_of_ble_eq_true rfl, Nat.le_of_ble_eq_true rfl⟩ (c6_years (asd_MO h) (show y ≤ 1000 by omega)) rfl rfl (Nat.le_of_ble_eq_true rfl) rfl (Nat.le_of_ble_eq_true rfl) rfl (fun m49 q49 => ?_)
        rw [asd_51] at q49
        have hp := q49.MO (MOR_yrs hR y)
        refine w_aload_n (i := 0) (n' := 53) dX6_ahead_52 rfl rfl rfl ?_
        refine w_iload_n (i := 1) (n' := 54) dX6_ahead_53 rfl rfl rfl ?_
        refine w_iload_n (i := 2) (n' := 55) dX6_ahead_54 rfl rfl rfl ?_
        refine v_E (ci := 6) (n' := 58) dX6_ahead_55 rfl lRX6_70 okX6_its voX6_its ⟨⟨Nat.le_of_ble_eq_true rfl, Nat.le_of_ble_eq_true rfl⟩, Nat.le_of_ble_eq_true rfl, Nat.le_of_ble_eq_true rfl⟩ (c6_its (i := i) (j := j) _ _ rfl rfl (by omega) _) rfl rfl (Nat.le_of_ble_eq_true rfl) rfl (Nat.le_of_ble_eq_true rfl) rfl ?_
        refine w_istore (n' := 60) (ls' := [_, _, _, _, _]) dX6_ahead_58 rfl (Nat.le_of_ble_eq_true rfl) rfl rfl ?_
        refine w_aload_n (i := 0) (n' := 61) dX6_ahead_60 rfl rfl rfl ?_
        refine w_get (ci := 6) (j := 3) (n' := 64) dX6_ahead_61 rfl fRX6_19 (Nat.le_of_ble_eq_true rfl) (Nat.le_of_ble_eq_true rfl) rfl rfl ?_
        refine w_aload_n (i := 0) (n' := 65) dX6_ahead_64 rfl rfl rfl ?_
        refine w_get (ci := 6) (j := 0) (n' := 68) dX6_ahead_65 rfl fRX6_7 (Nat.le_of_ble_eq_true rfl) (Nat.le_of_ble_eq_true rfl) rfl rfl ?_
        refine s_E (n' := 71) dX6_ahead_68 rfl lRX6_162 okX6_copyRow stX6_copyRow ⟨⟨Nat.le_of_ble_eq_true rfl, Nat.le_of_ble_eq_true rfl⟩, Nat.le_of_ble_eq_true rfl, Nat.le_of_ble_eq_true rfl⟩ (c6_copyRow (a := 54) (b := 51) rfl rfl rfl rfl (by decide) _) rfl rfl (Nat.le_of_ble_eq_true rfl) ?_
        refine w_iload (n' := 73) dX6_ahead_71 rfl rfl ?_
        exact w_iret dX6_ahead_73 rfl ⟨_, rfl, Or.inr ⟨h19, i, j, hi1, hj0, hj1, rfl, rfl, y, hy1, rfl, by rw [q49.1], QM.back q49 rfl⟩⟩
      · refine w_aload_n (i := 0) (n' := 30) dX6_ahead_29 rfl rfl rfl ?_
        refine w_ldc (v := -1000001) (n' := 32) dX6_ahead_30 rfl kRX6_43 ?_
        refine v_E (ci := 6) (n' := 35) dX6_ahead_32 rfl lRX6_45 okX6_finds voX6_finds ⟨⟨Nat.le_of_ble_eq_true rfl, Nat.le_of_ble_eq_true rfl⟩, Nat.le_of_ble_eq_true rfl, Nat.le_of_ble_eq_true rfl⟩ (c6_finds 0 _ (by decide) (by decide) _) rfl rfl (Nat.le_of_ble_eq_true rfl) rfl (Nat.le_of_ble_eq_true rfl) rfl ?_
        exact w_iret dX6_ahead_35 rfl ⟨_, rfl, Or.inl ⟨Or.inr (Or.inr (by simpa using h26)), rfl, rfl⟩⟩
set_option maxHeartbeats 4000000 in
theorem c6_when {n : Nat} {mem : Mem} (h : MO mem n) (f : Int32) : CnI mX6_when [.ref 50, .int f] mem (fun x m' => (inR f 0 (nI n - 1) = 0 ∧ x = -1000001 ∧ m' = fndM mem 0) ∨ (¬ inR f 0 (nI n - 1) = 0 ∧ ∃ y, Fst (fun z => (¬ bitI (lastS (DR (yrsR (mem 51) n z)) n) f = 0)) 0 60 y ∧ ((y ≤ 60 ∧ x = nI y ∧ QM mem m') ∨ (y = 61 ∧ x = -1000004 ∧ (∃ m2, QM mem m2 ∧ m' = fndM m2 3))))) := by
  have h8 := h.2.1
  have hR := MO_R.mp h
  have hA : RW (rowC mem 51 54) (yrsR (mem 51) n 0) (rowC mem 51 54) := by
    have := RW.rf (rowC mem 51 54)
    rw [asd_51] at this
    exact this
  refine Cn.of (ls := [some (.ref 50), some (.int f), none]) (by decide) rfl (Nat.le_of_ble_eq_true rfl) ?_
  refine w_aload_n (i := 0) (n' := 1) dX6_when_0 rfl rfl rfl ?_
  refine w_iload_n (i := 1) (n' := 2) dX6_when_1 rfl rfl rfl ?_
  refine v_E (ci := 6) (n' := 5) dX6_when_2 rfl lRX6_82 okX6_isFarm voX6_isFarm ⟨⟨Nat.le_of_ble_eq_true rfl, Nat.le_of_ble_eq_true rfl⟩, Nat.le_of_ble_eq_true rfl, Nat.le_of_ble_eq_true rfl⟩ (c6_isFarm h.1 h.2.1 _) rfl rfl (Nat.le_of_ble_eq_true rfl) rfl (Nat.le_of_ble_eq_true rfl) rfl ?_
  refine w_if_ne (n' := 8) (tgt := 15) dX6_when_5 rfl rfl (fun h5 => ?_) (fun h5 => ?_)
  · refine w_aload_n (i := 0) (n' := 16) dX6_when_15 rfl rfl rfl ?_
    refine w_get (ci := 6) (j := 0) (n' := 19) dX6_when_16 rfl fRX6_7 (Nat.le_of_ble_eq_true rfl) (Nat.le_of_ble_eq_true rfl) rfl rfl ?_
    refine w_aload_n (i := 0) (n' := 20) dX6_when_19 rfl rfl rfl ?_
    refine w_get (ci := 6) (j := 3) (n' := 23) dX6_when_20 rfl fRX6_19 (Nat.le_of_ble_eq_true rfl) (Nat.le_of_ble_eq_true rfl) rfl rfl ?_
    refine s_E (n' := 26) dX6_when_23 rfl lRX6_162 okX6_copyRow stX6_copyRow ⟨⟨Nat.le_of_ble_eq_true rfl, Nat.le_of_ble_eq_true rfl⟩, Nat.le_of_ble_eq_true rfl, Nat.le_of_ble_eq_true rfl⟩ (c6_copyRow (a := 51) (b := 54) rfl rfl rfl rfl (by decide) _) rfl rfl (Nat.le_of_ble_eq_true rfl) ?_
    refine w_iconst (v := 0) (n' := 27) dX6_when_26 rfl rfl ?_
    refine w_istore_n (i := 2) (n' := 28) (ls' := [_, _, _]) dX6_when_27 rfl rfl (Nat.le_of_ble_eq_true rfl) rfl rfl ?_
    have L : ∀ (i : Nat) (s : Mem), i ≤ 61 → (RW (rowC mem 51 54) (yrsR (mem 51) n i) s ∧ ∀ z, z < i → ¬ (¬ bitI (lastS (DR (yrsR (mem 51) n z)) n) f = 0)) → Wm mX6_when (zM mX6_when (fun rZ mZ => ∃ xZ, rZ = some (.int xZ) ∧ (fun x m' => (inR f 0 (nI n - 1) = 0 ∧ x = -1000001 ∧ m' = fndM mem 0) ∨ (¬ inR f 0 (nI n - 1) = 0 ∧ ∃ y, Fst (fun z => (¬ bitI (lastS (DR (yrsR (mem 51) n z)) n) f = 0)) 0 60 y ∧ ((y ≤ 60 ∧ x = nI y ∧ QM mem m') ∨ (y = 61 ∧ x = -1000004 ∧ (∃ m2, QM mem m2 ∧ m' = fndM m2 3))))) xZ mZ)) 28 [some (.ref 50), some (.int f), some (.int (nI i))] [] s := by
      refine for_ind 61 ?_
      rintro i s hi ⟨h1, h2⟩ ih
      have hp := h1.MO (MOR_yrs hR i)
      refine w_iload_n (i := 2) (n' := 29) dX6_when_28 rfl rfl rfl ?_
      refine w_bipush (v := 60) (n' := 31) dX6_when_29 rfl (by decide) ?_
      refine w_icmp_gt (n' := 34) (tgt := 55) dX6_when_31 rfl rfl (fun h31 => ?_) (fun h31 => ?_)
      · have hin : i = 61 := by
          rcases Nat.lt_or_ge i 61 with q | q
          · exact absurd h31 (nI_nlt (a := 60) (b := i) (by omega) (by decide))
          · omega
        subst hin
        refine w_aload_n (i := 0) (n' := 56) dX6_when_55 rfl rfl rfl ?_
        refine w_get (ci := 6) (j := 3) (n' := 59) dX6_when_56 rfl fRX6_19 (Nat.le_of_ble_eq_true rfl) (Nat.le_of_ble_eq_true rfl) rfl rfl ?_
        refine w_aload_n (i := 0) (n' := 60) dX6_when_59 rfl rfl rfl ?_
        refine w_get (ci := 6) (j := 0) (n' := 63) dX6_when_60 rfl fRX6_7 (Nat.le_of_ble_eq_true rfl) (Nat.le_of_ble_eq_true rfl) rfl rfl ?_
        refine s_E (n' := 66) dX6_when_63 rfl lRX6_162 okX6_copyRow stX6_copyRow ⟨⟨Nat.le_of_ble_eq_true rfl, Nat.le_of_ble_eq_true rfl⟩, Nat.le_of_ble_eq_true rfl, Nat.le_of_ble_eq_true rfl⟩ (c6_copyRow (a := 54) (b := 51) rfl rfl rfl rfl (by decide) _) rfl rfl (Nat.le_of_ble_eq_true rfl) ?_
        refine w_iload_n (i := 2) (n' := 67) dX6_when_66 rfl rfl rfl ?_
        refine w_bipush (v := 60) (n' := 69) dX6_when_67 rfl (by decide) ?_
        refine w_icmp_gt (n' := 72) (tgt := 76) dX6_when_69 rfl rfl (fun h69 => ?_) (fun h69 => absurd (nI_lt (a := 60) (b := 61) (by omega) (by omega)) h69)
        refine w_aload_n (i := 0) (n' := 77) dX6_when_76 rfl rfl rfl ?_
        refine w_ldc (v := -1000004) (n' := 79) dX6_when_77 rfl kRX6_44 ?_
        refine v_E (ci := 6) (n' := 82) dX6_when_79 rfl lRX6_45 okX6_finds voX6_finds ⟨⟨Nat.le_of_ble_eq_true rfl, Nat.le_of_ble_eq_true rfl⟩, Nat.le_of_ble_eq_true rfl, Nat.le_of_ble_eq_true rfl⟩ (c6_finds 3 _ (by decide) (by decide) _) rfl rfl (Nat.le_of_ble_eq_true rfl) rfl (Nat.le_of_ble_eq_true rfl) rfl ?_
        exact w_iret dX6_when_82 rfl ⟨_, rfl, Or.inr ⟨h5, ⟨61, ⟨Nat.zero_le _, by omega, fun z _ hz => h2 z hz, fun hh => absurd hh (by decide)⟩, Or.inr ⟨rfl, rfl, _, QM.back h1 rfl, rfl⟩⟩⟩⟩
      · have hlt : i < 61 := by
          rcases Nat.lt_or_ge i 61 with q | q
          · exact q
          · exact absurd (nI_lt (a := 60) (b := i) (by omega) (by omega)) h31
        refine w_aload_n (i := 0) (n' := 35) dX6_when_34 rfl rfl rfl ?_
        refine v_E (ci := 6) (n' := 38) dX6_when_35 rfl lRX6_119 okX6_lasts voX6_lasts ⟨⟨Nat.le_of_ble_eq_true rfl, Nat.le_of_ble_eq_true rfl⟩, Nat.le_of_ble_eq_true rfl, Nat.le_of_ble_eq_true rfl⟩ (c6_lasts hp) rfl rfl (Nat.le_of_ble_eq_true rfl) rfl (Nat.le_of_ble_eq_true rfl) rfl ?_
        refine w_iload_n (i := 1) (n' := 39) dX6_when_38 rfl rfl rfl ?_
        refine w_ishr (n' := 40) dX6_when_39 rfl ?_
        refine w_iconst (v := 1) (n' := 41) dX6_when_40 rfl rfl ?_
        refine w_iand (n' := 42) dX6_when_41 rfl ?_
        refine w_if_ne (n' := 45) (tgt := 55) dX6_when_42 rfl rfl (fun h42 => ?_) (fun h42 => ?_)
        · refine w_aload_n (i := 0) (n' := 56) dX6_when_55 rfl rfl rfl ?_
          refine w_get (ci := 6) (j := 3) (n' := 59) dX6_when_56 rfl fRX6_19 (Nat.le_of_ble_eq_true rfl) (Nat.le_of_ble_eq_true rfl) rfl rfl ?_
          refine w_aload_n (i := 0) (n' := 60) dX6_when_59 rfl rfl rfl ?_
          refine w_get (ci := 6) (j := 0) (n' := 63) dX6_when_60 rfl fRX6_7 (Nat.le_of_ble_eq_true rfl) (Nat.le_of_ble_eq_true rfl) rfl rfl ?_
          refine s_E (n' := 66) dX6_when_63 rfl lRX6_162 okX6_copyRow stX6_copyRow ⟨⟨Nat.le_of_ble_eq_true rfl, Nat.le_of_ble_eq_true rfl⟩, Nat.le_of_ble_eq_true rfl, Nat.le_of_ble_eq_true rfl⟩ (c6_copyRow (a := 54) (b := 51) rfl rfl rfl rfl (by decide) _) rfl rfl (Nat.le_of_ble_eq_true rfl) ?_
          refine w_iload_n (i := 2) (n' := 67) dX6_when_66 rfl rfl rfl ?_
          refine w_bipush (v := 60) (n' := 69) dX6_when_67 rfl (by decide) ?_
          refine w_icmp_gt (n' := 72) (tgt := 76) dX6_when_69 rfl rfl (fun h69 => absurd h69 (nI_nlt (a := 60) (b := i) (by omega) (by omega))) (fun h69 => ?_)
          refine w_iload_n (i := 2) (n' := 73) dX6_when_72 rfl rfl rfl ?_
          refine w_goto (tgt := 82) dX6_when_73 rfl ?_
          exact w_iret dX6_when_82 rfl ⟨_, rfl, Or.inr ⟨h5, ⟨i, ⟨Nat.zero_le _, by omega, fun z _ hz => h2 z hz, fun _ => fun q => h42 (by rw [h1.DM]; exact (bit_z _ _).mpr q)⟩, Or.inl ⟨by omega, rfl, QM.back h1.cd rfl⟩⟩⟩⟩
        · refine w_aload_n (i := 0) (n' := 46) dX6_when_45 rfl rfl rfl ?_
          refine v_V (ci := 6) (n' := 49) dX6_when_46 rfl lRX6_142 okX6_year voX6_year ⟨⟨Nat.le_of_ble_eq_true rfl, Nat.le_of_ble_eq_true rfl⟩, Nat.le_of_ble_eq_true rfl, Nat.le_of_ble_eq_true rfl⟩ (c6_year (cd_MO hp)) rfl rfl (Nat.le_of_ble_eq_true rfl) rfl (Nat.le_of_ble_eq_true rfl) rfl (fun m46 q46 => ?_)
          refine w_iinc (n' := 52) (v := nI (i + 1)) (ls' := [_, _, _]) dX6_when_49 rfl rfl (nI_1 i) (Nat.le_of_ble_eq_true rfl) rfl rfl ?_
          refine w_goto (tgt := 28) dX6_when_52 rfl ?_
          exact ih hlt _ ⟨h1.cd.yr q46, fun z hz => by
            rcases Nat.lt_or_ge z i with q | q
            · exact h2 z q
            · rw [show z = i by omega]; exact (fun q => q ((bit_z _ _).mp (by rw [← h1.DM]; simpa using h42)))⟩
    exact L 0 _ (Nat.zero_le _) ⟨hA, fun z hz => absurd hz (by omega)⟩
  · refine w_aload_n (i := 0) (n' := 9) dX6_when_8 rfl rfl rfl ?_
    refine w_ldc (v := -1000001) (n' := 11) dX6_when_9 rfl kRX6_43 ?_
    refine v_E (ci := 6) (n' := 14) dX6_when_11 rfl lRX6_45 okX6_finds voX6_finds ⟨⟨Nat.le_of_ble_eq_true rfl, Nat.le_of_ble_eq_true rfl⟩, Nat.le_of_ble_eq_true rfl, Nat.le_of_ble_eq_true rfl⟩ (c6_finds 0 _ (by decide) (by decide) _) rfl rfl (Nat.le_of_ble_eq_true rfl) rfl (Nat.le_of_ble_eq_true rfl) rfl ?_
    exact w_iret dX6_when_14 rfl ⟨_, rfl, Or.inl ⟨by simpa using h5, rfl, rfl⟩⟩
def bitN (P : Nat → Bool) : Nat → Nat
  | 0 => 0
  | i + 1 => if P i then bitN P i + 2 ^ i else bitN P i
theorem or_tab : ∀ i, i < 8 → ∀ w, w < 2 ^ i → nI w ||| ((1 : Int32) <<< (nI i &&& 31)) = nI (w + 2 ^ i) := by decide +kernel
theorem bitT_N (P : Nat → Bool) : ∀ n, n ≤ 8 → bitT P n = nI (bitN P n) ∧ bitN P n < 2 ^ n := by
  intro n
  induction n with
  | zero => intro _; exact ⟨rfl, Nat.one_pos⟩
  | succ n ih =>
    intro h
    obtain ⟨h1, h2⟩ := ih (by omega)
    rw [bitT, bitN]
    have e : 2 ^ (n + 1) = 2 ^ n + 2 ^ n := by rw [Nat.pow_succ]; omega
    by_cases c : P n = true
    · rw [if_pos c, if_pos c, h1, or_tab n (by omega) _ h2]
      exact ⟨rfl, by omega⟩
    · rw [if_neg c, if_neg c]
      exact ⟨h1, by omega⟩
theorem last_N (D : Nat → Int32) {n : Nat} (h : n ≤ 8) : ∃ w, w < 256 ∧ lastS D n = nI w := by
  obtain ⟨h1, h2⟩ := bitT_N (eqB D (mx D n)) n h
  have := pow_le h
  exact ⟨_, by omega, h1⟩
theorem two_le (x : Int32) : 2 ≤ x ↔ ¬ x ≤ 1 := by
  rw [Int32.le_iff_toInt_le, Int32.le_iff_toInt_le]
  have e1 : (2 : Int32).toInt = 2 := by decide
  have e2 : (1 : Int32).toInt = 1 := by decide
  omega
set_option maxHeartbeats 4000000 in
theorem c6_tie {n : Nat} {mem : Mem} (h : MO mem n) : CnI mX6_tie [.ref 50] mem (fun x m' => ∃ y, Fst (fun z => (¬ bcI (lastS (DR (yrsR (mem 51) n z)) n) ≤ 1)) 0 60 y ∧ ((y ≤ 60 ∧ x = nI y ∧ QM mem m') ∨ (y = 61 ∧ x = -1000004 ∧ (∃ m2, QM mem m2 ∧ m' = fndM m2 3)))) := by
  have h8 := h.2.1
  have hR := MO_R.mp h
  have hA : RW (rowC mem 51 54) (yrsR (mem 51) n 0) (rowC mem 51 54) := by
    have := RW.rf (rowC mem 51 54)
    rw [asd_51] at this
    exact this
  refine Cn.of (ls := [some (.ref 50), none]) (by decide) rfl (Nat.le_of_ble_eq_true rfl) ?_
  refine w_aload_n (i := 0) (n' := 1) dX6_tie_0 rfl rfl rfl ?_
  refine w_get (ci := 6) (j := 0) (n' := 4) dX6_tie_1 rfl fRX6_7 (Nat.le_of_ble_eq_true rfl) (Nat.le_of_ble_eq_true rfl) rfl rfl ?_
  refine w_aload_n (i := 0) (n' := 5) dX6_tie_4 rfl rfl rfl ?_
  refine w_get (ci := 6) (j := 3) (n' := 8) dX6_tie_5 rfl fRX6_19 (Nat.le_of_ble_eq_true rfl) (Nat.le_of_ble_eq_true rfl) rfl rfl ?_
  refine s_E (n' := 11) dX6_tie_8 rfl lRX6_162 okX6_copyRow stX6_copyRow ⟨⟨Nat.le_of_ble_eq_true rfl, Nat.le_of_ble_eq_true rfl⟩, Nat.le_of_ble_eq_true rfl, Nat.le_of_ble_eq_true rfl⟩ (c6_copyRow (a := 51) (b := 54) rfl rfl rfl rfl (by decide) _) rfl rfl (Nat.le_of_ble_eq_true rfl) ?_
  refine w_iconst (v := 0) (n' := 12) dX6_tie_11 rfl rfl ?_
  refine w_istore_n (i := 1) (n' := 13) (ls' := [_, _]) dX6_tie_12 rfl rfl (Nat.le_of_ble_eq_true rfl) rfl rfl ?_
  have L : ∀ (i : Nat) (s : Mem), i ≤ 61 → (RW (rowC mem 51 54) (yrsR (mem 51) n i) s ∧ ∀ z, z < i → ¬ (¬ bcI (lastS (DR (yrsR (mem 51) n z)) n) ≤ 1)) → Wm mX6_tie (zM mX6_tie (fun rZ mZ => ∃ xZ, rZ = some (.int xZ) ∧ (fun x m' => ∃ y, Fst (fun z => (¬ bcI (lastS (DR (yrsR (mem 51) n z)) n) ≤ 1)) 0 60 y ∧ ((y ≤ 60 ∧ x = nI y ∧ QM mem m') ∨ (y = 61 ∧ x = -1000004 ∧ (∃ m2, QM mem m2 ∧ m' = fndM m2 3)))) xZ mZ)) 13 [some (.ref 50), some (.int (nI i))] [] s := by
    refine for_ind 61 ?_
    rintro i s hi ⟨h1, h2⟩ ih
    have hp := h1.MO (MOR_yrs hR i)
    refine w_iload_n (i := 1) (n' := 14) dX6_tie_13 rfl rfl rfl ?_
    refine w_bipush (v := 60) (n' := 16) dX6_tie_14 rfl (by decide) ?_
    refine w_icmp_gt (n' := 19) (tgt := 40) dX6_tie_16 rfl rfl (fun h16 => ?_) (fun h16 => ?_)
    · have hin : i = 61 := by
        rcases Nat.lt_or_ge i 61 with q | q
        · exact absurd h16 (nI_nlt (a := 60) (b := i) (by omega) (by decide))
        · omega
      subst hin
      refine w_aload_n (i := 0) (n' := 41) dX6_tie_40 rfl rfl rfl ?_
      refine w_get (ci := 6) (j := 3) (n' := 44) dX6_tie_41 rfl fRX6_19 (Nat.le_of_ble_eq_true rfl) (Nat.le_of_ble_eq_true rfl) rfl rfl ?_
      refine w_aload_n (i := 0) (n' := 45) dX6_tie_44 rfl rfl rfl ?_
      refine w_get (ci := 6) (j := 0) (n' := 48) dX6_tie_45 rfl fRX6_7 (Nat.le_of_ble_eq_true rfl) (Nat.le_of_ble_eq_true rfl) rfl rfl ?_
      refine s_E (n' := 51) dX6_tie_48 rfl lRX6_162 okX6_copyRow stX6_copyRow ⟨⟨Nat.le_of_ble_eq_true rfl, Nat.le_of_ble_eq_true rfl⟩, Nat.le_of_ble_eq_true rfl, Nat.le_of_ble_eq_true rfl⟩ (c6_copyRow (a := 54) (b := 51) rfl rfl rfl rfl (by decide) _) rfl rfl (Nat.le_of_ble_eq_true rfl) ?_
      refine w_iload_n (i := 1) (n' := 52) dX6_tie_51 rfl rfl rfl ?_
      refine w_bipush (v := 60) (n' := 54) dX6_tie_52 rfl (by decide) ?_
      refine w_icmp_gt (n' := 57) (tgt := 61) dX6_tie_54 rfl rfl (fun h54 => ?_) (fun h54 => absurd (nI_lt (a := 60) (b := 61) (by omega) (by omega)) h54)
      refine w_aload_n (i := 0) (n' := 62) dX6_tie_61 rfl rfl rfl ?_
      refine w_ldc (v := -1000004) (n' := 64) dX6_tie_62 rfl kRX6_44 ?_
      refine v_E (ci := 6) (n' := 67) dX6_tie_64 rfl lRX6_45 okX6_finds voX6_finds ⟨⟨Nat.le_of_ble_eq_true rfl, Nat.le_of_ble_eq_true rfl⟩, Nat.le_of_ble_eq_true rfl, Nat.le_of_ble_eq_true rfl⟩ (c6_finds 3 _ (by decide) (by decide) _) rfl rfl (Nat.le_of_ble_eq_true rfl) rfl (Nat.le_of_ble_eq_true rfl) rfl ?_
      exact w_iret dX6_tie_67 rfl ⟨_, rfl, ⟨61, ⟨Nat.zero_le _, by omega, fun z _ hz => h2 z hz, fun hh => absurd hh (by decide)⟩, Or.inr ⟨rfl, rfl, _, QM.back h1 rfl, rfl⟩⟩⟩
    · have hlt : i < 61 := by
        rcases Nat.lt_or_ge i 61 with q | q
        · exact q
        · exact absurd (nI_lt (a := 60) (b := i) (by omega) (by omega)) h16
      refine w_aload_n (i := 0) (n' := 20) dX6_tie_19 rfl rfl rfl ?_
      refine v_E (ci := 6) (n' := 23) dX6_tie_20 rfl lRX6_119 okX6_lasts voX6_lasts ⟨⟨Nat.le_of_ble_eq_true rfl, Nat.le_of_ble_eq_true rfl⟩, Nat.le_of_ble_eq_true rfl, Nat.le_of_ble_eq_true rfl⟩ (c6_lasts hp) rfl rfl (Nat.le_of_ble_eq_true rfl) rfl (Nat.le_of_ble_eq_true rfl) rfl ?_
      obtain ⟨w, hw1, hw2⟩ := last_N (DM s) (n := n) h8
      rw [hw2]
      refine s_E (n' := 26) dX6_tie_23 rfl lRX6_168 okX6_many stX6_many ⟨⟨Nat.le_of_ble_eq_true rfl, Nat.le_of_ble_eq_true rfl⟩, Nat.le_of_ble_eq_true rfl, Nat.le_of_ble_eq_true rfl⟩ (c6_many w hw1 _) rfl rfl (Nat.le_of_ble_eq_true rfl) ?_
      refine w_iconst (v := 2) (n' := 27) dX6_tie_26 rfl rfl ?_
      refine w_icmp_ge (n' := 30) (tgt := 40) dX6_tie_27 rfl rfl (fun h27 => ?_) (fun h27 => ?_)
      · refine w_aload_n (i := 0) (n' := 41) dX6_tie_40 rfl rfl rfl ?_
        refine w_get (ci := 6) (j := 3) (n' := 44) dX6_tie_41 rfl fRX6_19 (Nat.le_of_ble_eq_true rfl) (Nat.le_of_ble_eq_true rfl) rfl rfl ?_
        refine w_aload_n (i := 0) (n' := 45) dX6_tie_44 rfl rfl rfl ?_
        refine w_get (ci := 6) (j := 0) (n' := 48) dX6_tie_45 rfl fRX6_7 (Nat.le_of_ble_eq_true rfl) (Nat.le_of_ble_eq_true rfl) rfl rfl ?_
        refine s_E (n' := 51) dX6_tie_48 rfl lRX6_162 okX6_copyRow stX6_copyRow ⟨⟨Nat.le_of_ble_eq_true rfl, Nat.le_of_ble_eq_true rfl⟩, Nat.le_of_ble_eq_true rfl, Nat.le_of_ble_eq_true rfl⟩ (c6_copyRow (a := 54) (b := 51) rfl rfl rfl rfl (by decide) _) rfl rfl (Nat.le_of_ble_eq_true rfl) ?_
        refine w_iload_n (i := 1) (n' := 52) dX6_tie_51 rfl rfl rfl ?_
        refine w_bipush (v := 60) (n' := 54) dX6_tie_52 rfl (by decide) ?_
        refine w_icmp_gt (n' := 57) (tgt := 61) dX6_tie_54 rfl rfl (fun h54 => absurd h54 (nI_nlt (a := 60) (b := i) (by omega) (by omega))) (fun h54 => ?_)
        refine w_iload_n (i := 1) (n' := 58) dX6_tie_57 rfl rfl rfl ?_
        refine w_goto (tgt := 67) dX6_tie_58 rfl ?_
        exact w_iret dX6_tie_67 rfl ⟨_, rfl, ⟨i, ⟨Nat.zero_le _, by omega, fun z _ hz => h2 z hz, fun _ => fun q => (two_le _).mp h27 (by rw [← hw2, h1.DM]; exact q)⟩, Or.inl ⟨by omega, rfl, QM.back h1.cd rfl⟩⟩⟩
      · refine w_aload_n (i := 0) (n' := 31) dX6_tie_30 rfl rfl rfl ?_
        refine v_V (ci := 6) (n' := 34) dX6_tie_31 rfl lRX6_142 okX6_year voX6_year ⟨⟨Nat.le_of_ble_eq_true rfl, Nat.le_of_ble_eq_true rfl⟩, Nat.le_of_ble_eq_true rfl, Nat.le_of_ble_eq_true rfl⟩ (c6_year (cd_MO hp)) rfl rfl (Nat.le_of_ble_eq_true rfl) rfl (Nat.le_of_ble_eq_true rfl) rfl (fun m31 q31 => ?_)
        refine w_iinc (n' := 37) (v := nI (i + 1)) (ls' := [_, _]) dX6_tie_34 rfl rfl (nI_1 i) (Nat.le_of_ble_eq_true rfl) rfl rfl ?_
        refine w_goto (tgt := 13) dX6_tie_37 rfl ?_
        exact ih hlt _ ⟨h1.cd.yr q31, fun z hz => by
          rcases Nat.lt_or_ge z i with q | q
          · exact h2 z q
          · rw [show z = i by omega]; exact (fun q => h27 ((two_le _).mpr (by rw [← hw2, h1.DM]; exact q)))⟩
  exact L 0 _ (Nat.zero_le _) ⟨hA, fun z hz => absurd hz (by omega)⟩
set_option maxHeartbeats 4000000 in
theorem c6_turns {n : Nat} {mem : Mem} (h : MO mem n) (f : Int32) : CnI mX6_turns [.ref 50, .int f] mem (fun x m' => (inR f (-99) 99 = 0 ∧ x = -1000001 ∧ m' = fndM mem 0) ∨ (¬ inR f (-99) 99 = 0 ∧ ∃ y, Fst (fun z => (¬ ansR (yrsR (mem 51) n z) n f = ansR (mem 51) n f)) 0 60 y ∧ ((y ≤ 60 ∧ x = nI y ∧ QM mem m') ∨ (y = 61 ∧ x = -1000004 ∧ (∃ m2, QM mem m2 ∧ m' = fndM m2 3))))) := by
  have h8 := h.2.1
  have hR := MO_R.mp h
  have hA : RW (rowC mem 51 54) (yrsR (mem 51) n 0) (rowC mem 51 54) := by
    have := RW.rf (rowC mem 51 54)
    rw [asd_51] at this
    exact this
  refine Cn.of (ls := [some (.ref 50), some (.int f), none, none]) (by decide) rfl (Nat.le_of_ble_eq_true rfl) ?_
  refine w_iload_n (i := 1) (n' := 1) dX6_turns_0 rfl rfl rfl ?_
  refine s_E (n' := 4) dX6_turns_1 rfl lRX6_136 okX6_isAsked stX6_isAsked ⟨⟨Nat.le_of_ble_eq_true rfl, Nat.le_of_ble_eq_true rfl⟩, Nat.le_of_ble_eq_true rfl, Nat.le_of_ble_eq_true rfl⟩ (c6_isAsked _ _) rfl rfl (Nat.le_of_ble_eq_true rfl) ?_
  refine w_if_ne (n' := 7) (tgt := 14) dX6_turns_4 rfl rfl (fun h4 => ?_) (fun h4 => ?_)
  · refine w_aload_n (i := 0) (n' := 15) dX6_turns_14 rfl rfl rfl ?_
    refine w_get (ci := 6) (j := 0) (n' := 18) dX6_turns_15 rfl fRX6_7 (Nat.le_of_ble_eq_true rfl) (Nat.le_of_ble_eq_true rfl) rfl rfl ?_
    refine w_aload_n (i := 0) (n' := 19) dX6_turns_18 rfl rfl rfl ?_
    refine w_get (ci := 6) (j := 3) (n' := 22) dX6_turns_19 rfl fRX6_19 (Nat.le_of_ble_eq_true rfl) (Nat.le_of_ble_eq_true rfl) rfl rfl ?_
    refine s_E (n' := 25) dX6_turns_22 rfl lRX6_162 okX6_copyRow stX6_copyRow ⟨⟨Nat.le_of_ble_eq_true rfl, Nat.le_of_ble_eq_true rfl⟩, Nat.le_of_ble_eq_true rfl, Nat.le_of_ble_eq_true rfl⟩ (c6_copyRow (a := 51) (b := 54) rfl rfl rfl rfl (by decide) _) rfl rfl (Nat.le_of_ble_eq_true rfl) ?_
    refine w_aload_n (i := 0) (n' := 26) dX6_turns_25 rfl rfl rfl ?_
    refine w_iload_n (i := 1) (n' := 27) dX6_turns_26 rfl rfl rfl ?_
    refine v_E (ci := 6) (n' := 30) dX6_turns_27 rfl lRX6_139 okX6_answerTo voX6_answerTo ⟨⟨Nat.le_of_ble_eq_true rfl, Nat.le_of_ble_eq_true rfl⟩, Nat.le_of_ble_eq_true rfl, Nat.le_of_ble_eq_true rfl⟩ (c6_answerTo (asd_MO h) _) rfl rfl (Nat.le_of_ble_eq_true rfl) rfl (Nat.le_of_ble_eq_true rfl) rfl ?_
    rw [show (if leanXM (rowC mem 51 54) n (lastS (DM (rowC mem 51 54)) n) < f then (0 : Int32) else 1) = ansR (mem 51) n f from by rw [leanXM_R, DM_R, asd_51]; rfl]
    refine w_istore_n (i := 2) (n' := 31) (ls' := [_, _, _, _]) dX6_turns_30 rfl rfl (Nat.le_of_ble_eq_true rfl) rfl rfl ?_
    refine w_iconst (v := 0) (n' := 32) dX6_turns_31 rfl rfl ?_
    refine w_istore_n (i := 3) (n' := 33) (ls' := [_, _, _, _]) dX6_turns_32 rfl rfl (Nat.le_of_ble_eq_true rfl) rfl rfl ?_
    have L : ∀ (i : Nat) (s : Mem), i ≤ 61 → (RW (rowC mem 51 54) (yrsR (mem 51) n i) s ∧ ∀ z, z < i → ¬ (¬ ansR (yrsR (mem 51) n z) n f = ansR (mem 51) n f)) → Wm mX6_turns (zM mX6_turns (fun rZ mZ => ∃ xZ, rZ = some (.int xZ) ∧ (fun x m' => (inR f (-99) 99 = 0 ∧ x = -1000001 ∧ m' = fndM mem 0) ∨ (¬ inR f (-99) 99 = 0 ∧ ∃ y, Fst (fun z => (¬ ansR (yrsR (mem 51) n z) n f = ansR (mem 51) n f)) 0 60 y ∧ ((y ≤ 60 ∧ x = nI y ∧ QM mem m') ∨ (y = 61 ∧ x = -1000004 ∧ (∃ m2, QM mem m2 ∧ m' = fndM m2 3))))) xZ mZ)) 33 [some (.ref 50), some (.int f), some (.int (ansR (mem 51) n f)), some (.int (nI i))] [] s := by
      refine for_ind 61 ?_
      rintro i s hi ⟨h1, h2⟩ ih
      have hp := h1.MO (MOR_yrs hR i)
      refine w_iload_n (i := 3) (n' := 34) dX6_turns_33 rfl rfl rfl ?_
      refine w_bipush (v := 60) (n' := 36) dX6_turns_34 rfl (by decide) ?_
      refine w_icmp_gt (n' := 39) (tgt := 58) dX6_turns_36 rfl rfl (fun h36 => ?_) (fun h36 => ?_)
      · have hin : i = 61 := by
          rcases Nat.lt_or_ge i 61 with q | q
          · exact absurd h36 (nI_nlt (a := 60) (b := i) (by omega) (by decide))
          · omega
        subst hin
        refine w_aload_n (i := 0) (n' := 59) dX6_turns_58 rfl rfl rfl ?_
        refine w_get (ci := 6) (j := 3) (n' := 62) dX6_turns_59 rfl fRX6_19 (Nat.le_of_ble_eq_true rfl) (Nat.le_of_ble_eq_true rfl) rfl rfl ?_
        refine w_aload_n (i := 0) (n' := 63) dX6_turns_62 rfl rfl rfl ?_
        refine w_get (ci := 6) (j := 0) (n' := 66) dX6_turns_63 rfl fRX6_7 (Nat.le_of_ble_eq_true rfl) (Nat.le_of_ble_eq_true rfl) rfl rfl ?_
        refine s_E (n' := 69) dX6_turns_66 rfl lRX6_162 okX6_copyRow stX6_copyRow ⟨⟨Nat.le_of_ble_eq_true rfl, Nat.le_of_ble_eq_true rfl⟩, Nat.le_of_ble_eq_true rfl, Nat.le_of_ble_eq_true rfl⟩ (c6_copyRow (a := 54) (b := 51) rfl rfl rfl rfl (by decide) _) rfl rfl (Nat.le_of_ble_eq_true rfl) ?_
        refine w_iload_n (i := 3) (n' := 70) dX6_turns_69 rfl rfl rfl ?_
        refine w_bipush (v := 60) (n' := 72) dX6_turns_70 rfl (by decide) ?_
        refine w_icmp_gt (n' := 75) (tgt := 79) dX6_turns_72 rfl rfl (fun h72 => ?_) (fun h72 => absurd (nI_lt (a := 60) (b := 61) (by omega) (by omega)) h72)
        refine w_aload_n (i := 0) (n' := 80) dX6_turns_79 rfl rfl rfl ?_
        refine w_ldc (v := -1000004) (n' := 82) dX6_turns_80 rfl kRX6_44 ?_
        refine v_E (ci := 6) (n' := 85) dX6_turns_82 rfl lRX6_45 okX6_finds voX6_finds ⟨⟨Nat.le_of_ble_eq_true rfl, Nat.le_of_ble_eq_true rfl⟩, Nat.le_of_ble_eq_true rfl, Nat.le_of_ble_eq_true rfl⟩ (c6_finds 3 _ (by decide) (by decide) _) rfl rfl (Nat.le_of_ble_eq_true rfl) rfl (Nat.le_of_ble_eq_true rfl) rfl ?_
        exact w_iret dX6_turns_85 rfl ⟨_, rfl, Or.inr ⟨h4, ⟨61, ⟨Nat.zero_le _, by omega, fun z _ hz => h2 z hz, fun hh => absurd hh (by decide)⟩, Or.inr ⟨rfl, rfl, _, QM.back h1 rfl, rfl⟩⟩⟩⟩
      · have hlt : i < 61 := by
          rcases Nat.lt_or_ge i 61 with q | q
          · exact q
          · exact absurd (nI_lt (a := 60) (b := i) (by omega) (by omega)) h36
        refine w_aload_n (i := 0) (n' := 40) dX6_turns_39 rfl rfl rfl ?_
        refine w_iload_n (i := 1) (n' := 41) dX6_turns_40 rfl rfl rfl ?_
        refine v_E (ci := 6) (n' := 44) dX6_turns_41 rfl lRX6_139 okX6_answerTo voX6_answerTo ⟨⟨Nat.le_of_ble_eq_true rfl, Nat.le_of_ble_eq_true rfl⟩, Nat.le_of_ble_eq_true rfl, Nat.le_of_ble_eq_true rfl⟩ (c6_answerTo hp _) rfl rfl (Nat.le_of_ble_eq_true rfl) rfl (Nat.le_of_ble_eq_true rfl) rfl ?_
        rw [show (if leanXM s n (lastS (DM s) n) < f then (0 : Int32) else 1) = ansR (yrsR (mem 51) n i) n f from by rw [leanXM_R, DM_R, h1.1]; rfl]
        refine w_iload_n (i := 2) (n' := 45) dX6_turns_44 rfl rfl rfl ?_
        refine w_icmp_ne (n' := 48) (tgt := 58) dX6_turns_45 rfl rfl (fun h45 => ?_) (fun h45 => ?_)
        · refine w_aload_n (i := 0) (n' := 59) dX6_turns_58 rfl rfl rfl ?_
          refine w_get (ci := 6) (j := 3) (n' := 62) dX6_turns_59 rfl fRX6_19 (Nat.le_of_ble_eq_true rfl) (Nat.le_of_ble_eq_true rfl) rfl rfl ?_
          refine w_aload_n (i := 0) (n' := 63) dX6_turns_62 rfl rfl rfl ?_
          refine w_get (ci := 6) (j := 0) (n' := 66) dX6_turns_63 rfl fRX6_7 (Nat.le_of_ble_eq_true rfl) (Nat.le_of_ble_eq_true rfl) rfl rfl ?_
          refine s_E (n' := 69) dX6_turns_66 rfl lRX6_162 okX6_copyRow stX6_copyRow ⟨⟨Nat.le_of_ble_eq_true rfl, Nat.le_of_ble_eq_true rfl⟩, Nat.le_of_ble_eq_true rfl, Nat.le_of_ble_eq_true rfl⟩ (c6_copyRow (a := 54) (b := 51) rfl rfl rfl rfl (by decide) _) rfl rfl (Nat.le_of_ble_eq_true rfl) ?_
          refine w_iload_n (i := 3) (n' := 70) dX6_turns_69 rfl rfl rfl ?_
          refine w_bipush (v := 60) (n' := 72) dX6_turns_70 rfl (by decide) ?_
          refine w_icmp_gt (n' := 75) (tgt := 79) dX6_turns_72 rfl rfl (fun h72 => absurd h72 (nI_nlt (a := 60) (b := i) (by omega) (by omega))) (fun h72 => ?_)
          refine w_iload_n (i := 3) (n' := 76) dX6_turns_75 rfl rfl rfl ?_
          refine w_goto (tgt := 85) dX6_turns_76 rfl ?_
          exact w_iret dX6_turns_85 rfl ⟨_, rfl, Or.inr ⟨h4, ⟨i, ⟨Nat.zero_le _, by omega, fun z _ hz => h2 z hz, fun _ => h45⟩, Or.inl ⟨by omega, rfl, QM.back h1.cd rfl⟩⟩⟩⟩
        · refine w_aload_n (i := 0) (n' := 49) dX6_turns_48 rfl rfl rfl ?_
          refine v_V (ci := 6) (n' := 52) dX6_turns_49 rfl lRX6_142 okX6_year voX6_year ⟨⟨Nat.le_of_ble_eq_true rfl, Nat.le_of_ble_eq_true rfl⟩, Nat.le_of_ble_eq_true rfl, Nat.le_of_ble_eq_true rfl⟩ (c6_year (cd_MO hp)) rfl rfl (Nat.le_of_ble_eq_true rfl) rfl (Nat.le_of_ble_eq_true rfl) rfl (fun m49 q49 => ?_)
          refine w_iinc (n' := 55) (v := nI (i + 1)) (ls' := [_, _, _, _]) dX6_turns_52 rfl rfl (nI_1 i) (Nat.le_of_ble_eq_true rfl) rfl rfl ?_
          refine w_goto (tgt := 33) dX6_turns_55 rfl ?_
          exact ih hlt _ ⟨h1.cd.yr q49, fun z hz => by
            rcases Nat.lt_or_ge z i with q | q
            · exact h2 z q
            · rw [show z = i by omega]; exact (fun q => q h45)⟩
    exact L 0 _ (Nat.zero_le _) ⟨hA.cd, fun z hz => absurd hz (by omega)⟩
  · refine w_aload_n (i := 0) (n' := 8) dX6_turns_7 rfl rfl rfl ?_
    refine w_ldc (v := -1000001) (n' := 10) dX6_turns_8 rfl kRX6_43 ?_
    refine v_E (ci := 6) (n' := 13) dX6_turns_10 rfl lRX6_45 okX6_finds voX6_finds ⟨⟨Nat.le_of_ble_eq_true rfl, Nat.le_of_ble_eq_true rfl⟩, Nat.le_of_ble_eq_true rfl, Nat.le_of_ble_eq_true rfl⟩ (c6_finds 0 _ (by decide) (by decide) _) rfl rfl (Nat.le_of_ble_eq_true rfl) rfl (Nat.le_of_ble_eq_true rfl) rfl ?_
    exact w_iret dX6_turns_13 rfl ⟨_, rfl, Or.inl ⟨by simpa using h4, rfl, rfl⟩⟩
set_option maxHeartbeats 4000000 in
theorem c6_isLast {n : Nat} {mem : Mem} (h : MO mem n) (f : Int32) : CnE mX6_isLast [.ref 50, .int f] mem (some (.int (bitI (lastS (DM mem) n) f))) (cdM mem n) := by
  refine Cn.of (ls := [some (.ref 50), some (.int f)]) (by decide) rfl (Nat.le_of_ble_eq_true rfl) ?_
  refine w_aload_n (i := 0) (n' := 1) dX6_isLast_0 rfl rfl rfl ?_
  refine v_E (ci := 6) (n' := 4) dX6_isLast_1 rfl lRX6_119 okX6_lasts voX6_lasts ⟨⟨Nat.le_of_ble_eq_true rfl, Nat.le_of_ble_eq_true rfl⟩, Nat.le_of_ble_eq_true rfl, Nat.le_of_ble_eq_true rfl⟩ (c6_lasts h) rfl rfl (Nat.le_of_ble_eq_true rfl) rfl (Nat.le_of_ble_eq_true rfl) rfl ?_
  refine w_iload_n (i := 1) (n' := 5) dX6_isLast_4 rfl rfl rfl ?_
  refine w_ishr (n' := 6) dX6_isLast_5 rfl ?_
  refine w_iconst (v := 1) (n' := 7) dX6_isLast_6 rfl rfl ?_
  refine w_iand (n' := 8) dX6_isLast_7 rfl ?_
  refine w_iconst (v := 1) (n' := 9) dX6_isLast_8 rfl rfl ?_
  refine w_icmp_ne (n' := 12) (tgt := 16) dX6_isLast_9 rfl rfl (fun h9 => ?_) (fun h9 => ?_)
  · refine w_iconst (v := 0) (n' := 17) dX6_isLast_16 rfl rfl ?_
    exact w_zret dX6_isLast_17 rfl rfl ⟨by rw [bitI, if_neg h9], rfl⟩
  · refine w_iconst (v := 1) (n' := 13) dX6_isLast_12 rfl rfl ?_
    refine w_goto (tgt := 17) dX6_isLast_13 rfl ?_
    exact w_zret dX6_isLast_17 rfl rfl ⟨by rw [bitI, if_pos (by simpa using h9)], rfl⟩
set_option maxHeartbeats 4000000 in
theorem c6_seed (v : Int32) (mem : Mem) : CnE mX6_seed [.ref 50, .int v] mem (some (.int (mem 51 2))) (up2 mem 51 2 v) := by
  refine Cn.of (ls := [some (.ref 50), some (.int v)]) (by decide) rfl (Nat.le_of_ble_eq_true rfl) ?_
  refine w_aload_n (i := 0) (n' := 1) dX6_seed_0 rfl rfl rfl ?_
  refine w_iconst (v := 2) (n' := 2) dX6_seed_1 rfl rfl ?_
  refine w_iload_n (i := 1) (n' := 3) dX6_seed_2 rfl rfl rfl ?_
  refine v_E (ci := 6) (n' := 6) dX6_seed_3 rfl lRX6_57 okX6_becomes voX6_becomes ⟨⟨Nat.le_of_ble_eq_true rfl, Nat.le_of_ble_eq_true rfl⟩, Nat.le_of_ble_eq_true rfl, Nat.le_of_ble_eq_true rfl⟩ (c6_becomes (p := 2) _ _ rfl (by decide) _) rfl rfl (Nat.le_of_ble_eq_true rfl) rfl (Nat.le_of_ble_eq_true rfl) rfl ?_
  exact w_iret dX6_seed_6 rfl ⟨rfl, rfl⟩
set_option maxHeartbeats 4000000 in
theorem c6_wipe (mem : Mem) : CnE mX6_wipe [.ref 50] mem (some (.int (mem 50 7))) (up2 mem 50 7 0) := by
  refine Cn.of (ls := [some (.ref 50), none]) (by decide) rfl (Nat.le_of_ble_eq_true rfl) ?_
  refine w_aload_n (i := 0) (n' := 1) dX6_wipe_0 rfl rfl rfl ?_
  refine w_get (ci := 6) (j := 7) (n' := 4) dX6_wipe_1 rfl fRX6_214 (Nat.le_of_ble_eq_true rfl) (Nat.le_of_ble_eq_true rfl) rfl rfl ?_
  refine w_istore_n (i := 1) (n' := 5) (ls' := [_, _]) dX6_wipe_4 rfl rfl (Nat.le_of_ble_eq_true rfl) rfl rfl ?_
  refine w_aload_n (i := 0) (n' := 6) dX6_wipe_5 rfl rfl rfl ?_
  refine w_iconst (v := 0) (n' := 7) dX6_wipe_6 rfl rfl ?_
  refine w_put (ci := 6) (j := 7) (n' := 10) dX6_wipe_7 rfl fRX6_214 (Nat.le_of_ble_eq_true rfl) (Nat.le_of_ble_eq_true rfl) rfl rfl rfl rfl ?_
  refine w_iload_n (i := 1) (n' := 11) dX6_wipe_10 rfl rfl rfl ?_
  exact w_iret dX6_wipe_11 rfl ⟨rfl, rfl⟩
