/-! the reference: what farms reap, who is last, the lean -/
def FM (m : Mem) (i j : Nat) : Int32 := m 51 (6 + 5 * i + j)
def FB (f : Nat → Int32) : Prop := (∃ k, k < 7 ∧ f 0 = nI k) ∧ (∃ t, t ≤ 999 ∧ f 1 = nI t) ∧ (∃ h, 1 ≤ h ∧ h ≤ 20 ∧ f 2 = nI h) ∧ (-9 ≤ (f 3).toInt ∧ (f 3).toInt ≤ 9) ∧ (∃ e, e ≤ 9999 ∧ f 4 = nI e)
def MO (m : Mem) (n : Nat) : Prop := m 51 0 = nI n ∧ n ≤ 8 ∧ (∃ w, w ≤ 99 ∧ m 51 3 = nI w) ∧ ∀ i, i < n → FB (FM m i)
def DM (m : Mem) (i : Nat) : Int32 := dayI (FM m i 0) (FM m i 1) (FM m i 2) (m 51 3)
theorem sly_eq {h w : Nat} (h1 : 1 ≤ h) (h20 : h ≤ 20) (hw : w ≤ 99) : maxI 1 ((maxI 1 (2 * nI h - nI w / 10) + 3) / 2) = (maxI 1 (2 * nI h - nI w / 10) + 3) / 2 := by
  obtain ⟨e1, e2, e3⟩ := plN_ok h (by omega) w (by omega) h1
  rw [e1]
  exact (tabP (plN h w) (by omega) e2).2.2.2.2.1
theorem lt_of_nle {a b : Int32} (h : ¬ a ≤ b) : b < a := Int32.not_le.mp h
theorem nlt_of_le {a b : Int32} (h : a ≤ b) : ¬ b < a := Int32.not_lt.mpr h
set_option maxHeartbeats 4000000 in
theorem c6_reaps {i n : Nat} {mem : Mem} (h : MO mem n) (hi : i < n) (there : Int32) : CnE mX6_reaps [.ref 50, .int (nI i), .int there] mem (some (.int (reapF (FM mem i 0) (FM mem i 2) (mem 51 3) there))) mem := by
  have h8 := h.2.1
  obtain ⟨w, hw1, hw2⟩ := h.2.2.1
  obtain ⟨hd, hd1, hd2, hd3⟩ := (h.2.2.2 i hi).2.2.1
  have hs : maxI 1 ((maxI 1 (2 * mem 51 (6 + 5 * i + 2) - mem 51 3 / 10) + 3) / 2) = (maxI 1 (2 * mem 51 (6 + 5 * i + 2) - mem 51 3 / 10) + 3) / 2 := by
    have := sly_eq hd1 hd2 hw1
    rw [← hd3, ← hw2] at this
    exact this
  refine Cn.of (ls := [some (.ref 50), some (.int (nI i)), some (.int there), none, none, none]) (by decide) rfl (Nat.le_of_ble_eq_true rfl) ?_
  refine w_iconst (v := 1) (n' := 1) dX6_reaps_0 rfl rfl ?_
  refine w_iconst (v := 2) (n' := 2) dX6_reaps_1 rfl rfl ?_
  refine w_aload_n (i := 0) (n' := 3) dX6_reaps_2 rfl rfl rfl ?_
  refine w_iload_n (i := 1) (n' := 4) dX6_reaps_3 rfl rfl rfl ?_
  refine w_iconst (v := 2) (n' := 5) dX6_reaps_4 rfl rfl ?_
  refine v_E (ci := 6) (n' := 8) dX6_reaps_5 rfl lRX6_70 okX6_its voX6_its ⟨⟨Nat.le_of_ble_eq_true rfl, Nat.le_of_ble_eq_true rfl⟩, Nat.le_of_ble_eq_true rfl, Nat.le_of_ble_eq_true rfl⟩ (c6_its (i := i) (j := 2) _ _ rfl (by decide) (by omega) _) rfl rfl (Nat.le_of_ble_eq_true rfl) rfl (Nat.le_of_ble_eq_true rfl) rfl ?_
  refine w_imul (n' := 9) dX6_reaps_8 rfl ?_
  refine w_aload_n (i := 0) (n' := 10) dX6_reaps_9 rfl rfl rfl ?_
  refine w_get (ci := 6) (j := 0) (n' := 13) dX6_reaps_10 rfl fRX6_7 (Nat.le_of_ble_eq_true rfl) (Nat.le_of_ble_eq_true rfl) rfl rfl ?_
  refine w_iconst (v := 3) (n' := 14) dX6_reaps_13 rfl rfl ?_
  refine w_iald (n := 3) (n' := 15) dX6_reaps_14 rfl rfl (by decide) (by decide) ?_
  refine w_bipush (v := 10) (n' := 17) dX6_reaps_15 rfl (by decide) ?_
  refine w_idiv (n' := 18) dX6_reaps_17 rfl (by decide) ?_
  refine w_isub (n' := 19) dX6_reaps_18 rfl ?_
  refine s_E (n' := 22) dX6_reaps_19 rfl lRX6_73 okX6_greatest stX6_greatest ⟨⟨Nat.le_of_ble_eq_true rfl, Nat.le_of_ble_eq_true rfl⟩, Nat.le_of_ble_eq_true rfl, Nat.le_of_ble_eq_true rfl⟩ (c6_greatest _ _ _) rfl rfl (Nat.le_of_ble_eq_true rfl) ?_
  refine w_istore_n (i := 3) (n' := 23) (ls' := [_, _, _, _, _, _]) dX6_reaps_22 rfl rfl (Nat.le_of_ble_eq_true rfl) rfl rfl ?_
  refine w_iconst (v := 1) (n' := 24) dX6_reaps_23 rfl rfl ?_
  refine w_iload_n (i := 3) (n' := 25) dX6_reaps_24 rfl rfl rfl ?_
  refine w_iconst (v := 2) (n' := 26) dX6_reaps_25 rfl rfl ?_
  refine w_idiv (n' := 27) dX6_reaps_26 rfl (by decide) ?_
  refine s_E (n' := 30) dX6_reaps_27 rfl lRX6_73 okX6_greatest stX6_greatest ⟨⟨Nat.le_of_ble_eq_true rfl, Nat.le_of_ble_eq_true rfl⟩, Nat.le_of_ble_eq_true rfl, Nat.le_of_ble_eq_true rfl⟩ (c6_greatest _ _ _) rfl rfl (Nat.le_of_ble_eq_true rfl) ?_
  refine w_istore (n' := 32) (ls' := [_, _, _, _, _, _]) dX6_reaps_30 rfl (Nat.le_of_ble_eq_true rfl) rfl rfl ?_
  refine w_iload_n (i := 2) (n' := 33) dX6_reaps_32 rfl rfl rfl ?_
  refine w_bipush (v := 20) (n' := 35) dX6_reaps_33 rfl (by decide) ?_
  refine w_icmp_le (n' := 38) (tgt := 44) dX6_reaps_35 rfl rfl (fun h35 => ?_) (fun h35 => ?_)
  · have g20 := nlt_of_le h35
    refine w_iconst (v := 1) (n' := 45) dX6_reaps_44 rfl rfl ?_
    refine w_iload_n (i := 3) (n' := 46) dX6_reaps_45 rfl rfl rfl ?_
    refine w_iconst (v := 3) (n' := 47) dX6_reaps_46 rfl rfl ?_
    refine w_iadd (n' := 48) dX6_reaps_47 rfl ?_
    refine w_iconst (v := 2) (n' := 49) dX6_reaps_48 rfl rfl ?_
    refine w_idiv (n' := 50) dX6_reaps_49 rfl (by decide) ?_
    refine s_E (n' := 53) dX6_reaps_50 rfl lRX6_73 okX6_greatest stX6_greatest ⟨⟨Nat.le_of_ble_eq_true rfl, Nat.le_of_ble_eq_true rfl⟩, Nat.le_of_ble_eq_true rfl, Nat.le_of_ble_eq_true rfl⟩ (c6_greatest _ _ _) rfl rfl (Nat.le_of_ble_eq_true rfl) ?_
    refine w_istore (n' := 55) (ls' := [_, _, _, _, _, _]) dX6_reaps_53 rfl (Nat.le_of_ble_eq_true rfl) rfl rfl ?_
    refine w_aload_n (i := 0) (n' := 56) dX6_reaps_55 rfl rfl rfl ?_
    refine w_iload_n (i := 1) (n' := 57) dX6_reaps_56 rfl rfl rfl ?_
    refine w_iconst (v := 0) (n' := 58) dX6_reaps_57 rfl rfl ?_
    refine v_E (ci := 6) (n' := 61) dX6_reaps_58 rfl lRX6_70 okX6_its voX6_its ⟨⟨Nat.le_of_ble_eq_true rfl, Nat.le_of_ble_eq_true rfl⟩, Nat.le_of_ble_eq_true rfl, Nat.le_of_ble_eq_true rfl⟩ (c6_its (i := i) (j := 0) _ _ rfl (by decide) (by omega) _) rfl rfl (Nat.le_of_ble_eq_true rfl) rfl (Nat.le_of_ble_eq_true rfl) rfl ?_
    refine w_tc (1) (tgt := 100) dX6_reaps_61 (by decide) (by decide) rfl rfl (fun e61_0 => ?_) (fun e61_0 => ?_)
    · refine w_iload (n' := 102) dX6_reaps_100 rfl rfl ?_
      exact w_iret dX6_reaps_102 rfl ⟨by show some (Value.int _) = some (Value.int (reapF (mem 51 (6 + 5 * i + 0)) (mem 51 (6 + 5 * i + 2)) (mem 51 3) there)); rw [reapF, if_pos e61_0], rfl⟩
    refine w_tc (2) (tgt := 103) dX6_reaps_61 (by decide) (by decide) rfl rfl (fun e61_1 => ?_) (fun e61_1 => ?_)
    · refine w_iload_n (i := 3) (n' := 104) dX6_reaps_103 rfl rfl rfl ?_
      refine w_iconst (v := 3) (n' := 105) dX6_reaps_104 rfl rfl ?_
      refine w_iadd (n' := 106) dX6_reaps_105 rfl ?_
      exact w_iret dX6_reaps_106 rfl ⟨by show some (Value.int _) = some (Value.int (reapF (mem 51 (6 + 5 * i + 0)) (mem 51 (6 + 5 * i + 2)) (mem 51 3) there)); rw [reapF, if_neg e61_0, if_pos e61_1], rfl⟩
    refine w_tc (3) (tgt := 107) dX6_reaps_61 (by decide) (by decide) rfl rfl (fun e61_2 => ?_) (fun e61_2 => ?_)
    · refine w_iload (n' := 109) dX6_reaps_107 rfl rfl ?_
      exact w_iret dX6_reaps_109 rfl ⟨by show some (Value.int _) = some (Value.int (reapF (mem 51 (6 + 5 * i + 0)) (mem 51 (6 + 5 * i + 2)) (mem 51 3) there)); rw [reapF, if_neg e61_0, if_neg e61_1, if_pos e61_2, if_neg g20, hs], rfl⟩
    refine w_tc (4) (tgt := 110) dX6_reaps_61 (by decide) (by decide) rfl rfl (fun e61_3 => ?_) (fun e61_3 => ?_)
    · refine w_iload_n (i := 2) (n' := 111) dX6_reaps_110 rfl rfl rfl ?_
      refine w_iconst (v := 5) (n' := 112) dX6_reaps_111 rfl rfl ?_
      refine w_icmp_le (n' := 115) (tgt := 120) dX6_reaps_112 rfl rfl (fun h112 => ?_) (fun h112 => ?_)
      · have g5 := nlt_of_le h112
        refine w_iconst (v := 1) (n' := 121) dX6_reaps_120 rfl rfl ?_
        exact w_iret dX6_reaps_121 rfl ⟨by show some (Value.int _) = some (Value.int (reapF (mem 51 (6 + 5 * i + 0)) (mem 51 (6 + 5 * i + 2)) (mem 51 3) there)); rw [reapF, if_neg e61_0, if_neg e61_1, if_neg e61_2, if_pos e61_3, if_neg g5], rfl⟩
      · have g5 := lt_of_nle h112
        refine w_iload (n' := 117) dX6_reaps_115 rfl rfl ?_
        refine w_goto (tgt := 121) dX6_reaps_117 rfl ?_
        exact w_iret dX6_reaps_121 rfl ⟨by show some (Value.int _) = some (Value.int (reapF (mem 51 (6 + 5 * i + 0)) (mem 51 (6 + 5 * i + 2)) (mem 51 3) there)); rw [reapF, if_neg e61_0, if_neg e61_1, if_neg e61_2, if_pos e61_3, if_pos g5, if_neg g20, hs], rfl⟩
    refine w_tc (5) (tgt := 122) dX6_reaps_61 (by decide) (by decide) rfl rfl (fun e61_4 => ?_) (fun e61_4 => ?_)
    · refine w_aload_n (i := 0) (n' := 123) dX6_reaps_122 rfl rfl rfl ?_
      refine w_get (ci := 6) (j := 0) (n' := 126) dX6_reaps_123 rfl fRX6_7 (Nat.le_of_ble_eq_true rfl) (Nat.le_of_ble_eq_true rfl) rfl rfl ?_
      refine w_iconst (v := 3) (n' := 127) dX6_reaps_126 rfl rfl ?_
      refine w_iald (n := 3) (n' := 128) dX6_reaps_127 rfl rfl (by decide) (by decide) ?_
      refine w_bipush (v := 50) (n' := 130) dX6_reaps_128 rfl (by decide) ?_
      refine w_icmp_ge (n' := 133) (tgt := 138) dX6_reaps_130 rfl rfl (fun h130 => ?_) (fun h130 => ?_)
      · have g50 := nlt_of_le h130
        refine w_iconst (v := 2) (n' := 139) dX6_reaps_138 rfl rfl ?_
        exact w_iret dX6_reaps_139 rfl ⟨by show some (Value.int _) = some (Value.int (reapF (mem 51 (6 + 5 * i + 0)) (mem 51 (6 + 5 * i + 2)) (mem 51 3) there)); rw [reapF, if_neg e61_0, if_neg e61_1, if_neg e61_2, if_neg e61_3, if_pos e61_4, if_neg g50], rfl⟩
      · have g50 := lt_of_nle h130
        refine w_bipush (v := 30) (n' := 135) dX6_reaps_133 rfl (by decide) ?_
        refine w_goto (tgt := 139) dX6_reaps_135 rfl ?_
        exact w_iret dX6_reaps_139 rfl ⟨by show some (Value.int _) = some (Value.int (reapF (mem 51 (6 + 5 * i + 0)) (mem 51 (6 + 5 * i + 2)) (mem 51 3) there)); rw [reapF, if_neg e61_0, if_neg e61_1, if_neg e61_2, if_neg e61_3, if_pos e61_4, if_pos g50], rfl⟩
    refine w_tc (6) (tgt := 140) dX6_reaps_61 (by decide) (by decide) rfl rfl (fun e61_5 => ?_) (fun e61_5 => ?_)
    · refine w_iconst (v := 1) (n' := 141) dX6_reaps_140 rfl rfl ?_
      refine w_iload (n' := 143) dX6_reaps_141 rfl rfl ?_
      refine w_iconst (v := 1) (n' := 144) dX6_reaps_143 rfl rfl ?_
      refine w_isub (n' := 145) dX6_reaps_144 rfl ?_
      refine s_E (n' := 148) dX6_reaps_145 rfl lRX6_73 okX6_greatest stX6_greatest ⟨⟨Nat.le_of_ble_eq_true rfl, Nat.le_of_ble_eq_true rfl⟩, Nat.le_of_ble_eq_true rfl, Nat.le_of_ble_eq_true rfl⟩ (c6_greatest _ _ _) rfl rfl (Nat.le_of_ble_eq_true rfl) ?_
      exact w_iret dX6_reaps_148 rfl ⟨by show some (Value.int _) = some (Value.int (reapF (mem 51 (6 + 5 * i + 0)) (mem 51 (6 + 5 * i + 2)) (mem 51 3) there)); rw [reapF, if_neg e61_0, if_neg e61_1, if_neg e61_2, if_neg e61_3, if_neg e61_4, if_pos e61_5], rfl⟩
    refine w_td [1, 2, 3, 4, 5, 6] (tgt := 149) dX6_reaps_61 rfl (by decide) (List.forall_mem_cons.mpr ⟨e61_0, (List.forall_mem_cons.mpr ⟨e61_1, (List.forall_mem_cons.mpr ⟨e61_2, (List.forall_mem_cons.mpr ⟨e61_3, (List.forall_mem_cons.mpr ⟨e61_4, (List.forall_mem_cons.mpr ⟨e61_5, (fun _ h => absurd h List.not_mem_nil)⟩)⟩)⟩)⟩)⟩)⟩) ?_
    refine w_iload_n (i := 3) (n' := 150) dX6_reaps_149 rfl rfl rfl ?_
    exact w_iret dX6_reaps_150 rfl ⟨by show some (Value.int _) = some (Value.int (reapF (mem 51 (6 + 5 * i + 0)) (mem 51 (6 + 5 * i + 2)) (mem 51 3) there)); rw [reapF, if_neg e61_0, if_neg e61_1, if_neg e61_2, if_neg e61_3, if_neg e61_4, if_neg e61_5], rfl⟩
  · have g20 := lt_of_nle h35
    refine w_iload_n (i := 3) (n' := 39) dX6_reaps_38 rfl rfl rfl ?_
    refine w_iconst (v := 3) (n' := 40) dX6_reaps_39 rfl rfl ?_
    refine w_iadd (n' := 41) dX6_reaps_40 rfl ?_
    refine w_goto (tgt := 53) dX6_reaps_41 rfl ?_
    refine w_istore (n' := 55) (ls' := [_, _, _, _, _, _]) dX6_reaps_53 rfl (Nat.le_of_ble_eq_true rfl) rfl rfl ?_
    refine w_aload_n (i := 0) (n' := 56) dX6_reaps_55 rfl rfl rfl ?_
    refine w_iload_n (i := 1) (n' := 57) dX6_reaps_56 rfl rfl rfl ?_
    refine w_iconst (v := 0) (n' := 58) dX6_reaps_57 rfl rfl ?_
    refine v_E (ci := 6) (n' := 61) dX6_reaps_58 rfl lRX6_70 okX6_its voX6_its ⟨⟨Nat.le_of_ble_eq_true rfl, Nat.le_of_ble_eq_true rfl⟩, Nat.le_of_ble_eq_true rfl, Nat.le_of_ble_eq_true rfl⟩ (c6_its (i := i) (j := 0) _ _ rfl (by decide) (by omega) _) rfl rfl (Nat.le_of_ble_eq_true rfl) rfl (Nat.le_of_ble_eq_true rfl) rfl ?_
    refine w_tc (1) (tgt := 100) dX6_reaps_61 (by decide) (by decide) rfl rfl (fun e61_0 => ?_) (fun e61_0 => ?_)
    · refine w_iload (n' := 102) dX6_reaps_100 rfl rfl ?_
      exact w_iret dX6_reaps_102 rfl ⟨by show some (Value.int _) = some (Value.int (reapF (mem 51 (6 + 5 * i + 0)) (mem 51 (6 + 5 * i + 2)) (mem 51 3) there)); rw [reapF, if_pos e61_0], rfl⟩
    refine w_tc (2) (tgt := 103) dX6_reaps_61 (by decide) (by decide) rfl rfl (fun e61_1 => ?_) (fun e61_1 => ?_)
    · refine w_iload_n (i := 3) (n' := 104) dX6_reaps_103 rfl rfl rfl ?_
      refine w_iconst (v := 3) (n' := 105) dX6_reaps_104 rfl rfl ?_
      refine w_iadd (n' := 106) dX6_reaps_105 rfl ?_
      exact w_iret dX6_reaps_106 rfl ⟨by show some (Value.int _) = some (Value.int (reapF (mem 51 (6 + 5 * i + 0)) (mem 51 (6 + 5 * i + 2)) (mem 51 3) there)); rw [reapF, if_neg e61_0, if_pos e61_1], rfl⟩
    refine w_tc (3) (tgt := 107) dX6_reaps_61 (by decide) (by decide) rfl rfl (fun e61_2 => ?_) (fun e61_2 => ?_)
    · refine w_iload (n' := 109) dX6_reaps_107 rfl rfl ?_
      exact w_iret dX6_reaps_109 rfl ⟨by show some (Value.int _) = some (Value.int (reapF (mem 51 (6 + 5 * i + 0)) (mem 51 (6 + 5 * i + 2)) (mem 51 3) there)); rw [reapF, if_neg e61_0, if_neg e61_1, if_pos e61_2, if_pos g20], rfl⟩
    refine w_tc (4) (tgt := 110) dX6_reaps_61 (by decide) (by decide) rfl rfl (fun e61_3 => ?_) (fun e61_3 => ?_)
    · refine w_iload_n (i := 2) (n' := 111) dX6_reaps_110 rfl rfl rfl ?_
      refine w_iconst (v := 5) (n' := 112) dX6_reaps_111 rfl rfl ?_
      refine w_icmp_le (n' := 115) (tgt := 120) dX6_reaps_112 rfl rfl (fun h112 => ?_) (fun h112 => ?_)
      · have g5 := nlt_of_le h112
        refine w_iconst (v := 1) (n' := 121) dX6_reaps_120 rfl rfl ?_
        exact w_iret dX6_reaps_121 rfl ⟨by show some (Value.int _) = some (Value.int (reapF (mem 51 (6 + 5 * i + 0)) (mem 51 (6 + 5 * i + 2)) (mem 51 3) there)); rw [reapF, if_neg e61_0, if_neg e61_1, if_neg e61_2, if_pos e61_3, if_neg g5], rfl⟩
      · have g5 := lt_of_nle h112
        refine w_iload (n' := 117) dX6_reaps_115 rfl rfl ?_
        refine w_goto (tgt := 121) dX6_reaps_117 rfl ?_
        exact w_iret dX6_reaps_121 rfl ⟨by show some (Value.int _) = some (Value.int (reapF (mem 51 (6 + 5 * i + 0)) (mem 51 (6 + 5 * i + 2)) (mem 51 3) there)); rw [reapF, if_neg e61_0, if_neg e61_1, if_neg e61_2, if_pos e61_3, if_pos g5, if_pos g20], rfl⟩
    refine w_tc (5) (tgt := 122) dX6_reaps_61 (by decide) (by decide) rfl rfl (fun e61_4 => ?_) (fun e61_4 => ?_)
    · refine w_aload_n (i := 0) (n' := 123) dX6_reaps_122 rfl rfl rfl ?_
      refine w_get (ci := 6) (j := 0) (n' := 126) dX6_reaps_123 rfl fRX6_7 (Nat.le_of_ble_eq_true rfl) (Nat.le_of_ble_eq_true rfl) rfl rfl ?_
      refine w_iconst (v := 3) (n' := 127) dX6_reaps_126 rfl rfl ?_
      refine w_iald (n := 3) (n' := 128) dX6_reaps_127 rfl rfl (by decide) (by decide) ?_
      refine w_bipush (v := 50) (n' := 130) dX6_reaps_128 rfl (by decide) ?_
      refine w_icmp_ge (n' := 133) (tgt := 138) dX6_reaps_130 rfl rfl (fun h130 => ?_) (fun h130 => ?_)
      · have g50 := nlt_of_le h130
        refine w_iconst (v := 2) (n' := 139) dX6_reaps_138 rfl rfl ?_
        exact w_iret dX6_reaps_139 rfl ⟨by show some (Value.int _) = some (Value.int (reapF (mem 51 (6 + 5 * i + 0)) (mem 51 (6 + 5 * i + 2)) (mem 51 3) there)); rw [reapF, if_neg e61_0, if_neg e61_1, if_neg e61_2, if_neg e61_3, if_pos e61_4, if_neg g50], rfl⟩
      · have g50 := lt_of_nle h130
        refine w_bipush (v := 30) (n' := 135) dX6_reaps_133 rfl (by decide) ?_
        refine w_goto (tgt := 139) dX6_reaps_135 rfl ?_
        exact w_iret dX6_reaps_139 rfl ⟨by show some (Value.int _) = some (Value.int (reapF (mem 51 (6 + 5 * i + 0)) (mem 51 (6 + 5 * i + 2)) (mem 51 3) there)); rw [reapF, if_neg e61_0, if_neg e61_1, if_neg e61_2, if_neg e61_3, if_pos e61_4, if_pos g50], rfl⟩
    refine w_tc (6) (tgt := 140) dX6_reaps_61 (by decide) (by decide) rfl rfl (fun e61_5 => ?_) (fun e61_5 => ?_)
    · refine w_iconst (v := 1) (n' := 141) dX6_reaps_140 rfl rfl ?_
      refine w_iload (n' := 143) dX6_reaps_141 rfl rfl ?_
      refine w_iconst (v := 1) (n' := 144) dX6_reaps_143 rfl rfl ?_
      refine w_isub (n' := 145) dX6_reaps_144 rfl ?_
      refine s_E (n' := 148) dX6_reaps_145 rfl lRX6_73 okX6_greatest stX6_greatest ⟨⟨Nat.le_of_ble_eq_true rfl, Nat.le_of_ble_eq_true rfl⟩, Nat.le_of_ble_eq_true rfl, Nat.le_of_ble_eq_true rfl⟩ (c6_greatest _ _ _) rfl rfl (Nat.le_of_ble_eq_true rfl) ?_
      exact w_iret dX6_reaps_148 rfl ⟨by show some (Value.int _) = some (Value.int (reapF (mem 51 (6 + 5 * i + 0)) (mem 51 (6 + 5 * i + 2)) (mem 51 3) there)); rw [reapF, if_neg e61_0, if_neg e61_1, if_neg e61_2, if_neg e61_3, if_neg e61_4, if_pos e61_5], rfl⟩
    refine w_td [1, 2, 3, 4, 5, 6] (tgt := 149) dX6_reaps_61 rfl (by decide) (List.forall_mem_cons.mpr ⟨e61_0, (List.forall_mem_cons.mpr ⟨e61_1, (List.forall_mem_cons.mpr ⟨e61_2, (List.forall_mem_cons.mpr ⟨e61_3, (List.forall_mem_cons.mpr ⟨e61_4, (List.forall_mem_cons.mpr ⟨e61_5, (fun _ h => absurd h List.not_mem_nil)⟩)⟩)⟩)⟩)⟩)⟩) ?_
    refine w_iload_n (i := 3) (n' := 150) dX6_reaps_149 rfl rfl rfl ?_
    exact w_iret dX6_reaps_150 rfl ⟨by show some (Value.int _) = some (Value.int (reapF (mem 51 (6 + 5 * i + 0)) (mem 51 (6 + 5 * i + 2)) (mem 51 3) there)); rw [reapF, if_neg e61_0, if_neg e61_1, if_neg e61_2, if_neg e61_3, if_neg e61_4, if_neg e61_5], rfl⟩
set_option maxHeartbeats 4000000 in
theorem c6_tells {i : Nat} (hi : i < 8) (mem : Mem) : CnE mX6_tells [.ref 50, .int (nI i)] mem (some (.int (tellF (FM mem i 0) (FM mem i 4)))) mem := by
  refine Cn.of (ls := [some (.ref 50), some (.int (nI i))]) (by decide) rfl (Nat.le_of_ble_eq_true rfl) ?_
  refine w_aload_n (i := 0) (n' := 1) dX6_tells_0 rfl rfl rfl ?_
  refine w_iload_n (i := 1) (n' := 2) dX6_tells_1 rfl rfl rfl ?_
  refine w_iconst (v := 0) (n' := 3) dX6_tells_2 rfl rfl ?_
  refine v_E (ci := 6) (n' := 6) dX6_tells_3 rfl lRX6_70 okX6_its voX6_its ⟨⟨Nat.le_of_ble_eq_true rfl, Nat.le_of_ble_eq_true rfl⟩, Nat.le_of_ble_eq_true rfl, Nat.le_of_ble_eq_true rfl⟩ (c6_its (i := i) (j := 0) _ _ rfl (by decide) (by omega) _) rfl rfl (Nat.le_of_ble_eq_true rfl) rfl (Nat.le_of_ble_eq_true rfl) rfl ?_
  refine w_tc (1) (tgt := 44) dX6_tells_6 (by decide) (by decide) rfl rfl (fun e6_0 => ?_) (fun e6_0 => ?_)
  · refine w_iconst (v := 2) (n' := 45) dX6_tells_44 rfl rfl ?_
    exact w_iret dX6_tells_45 rfl ⟨by simp_all [tellF, FM], rfl⟩
  refine w_tc (2) (tgt := 46) dX6_tells_6 (by decide) (by decide) rfl rfl (fun e6_1 => ?_) (fun e6_1 => ?_)
  · refine w_iconst (v := 3) (n' := 47) dX6_tells_46 rfl rfl ?_
    exact w_iret dX6_tells_47 rfl ⟨by simp_all [tellF, FM], rfl⟩
  refine w_tc (3) (tgt := 48) dX6_tells_6 (by decide) (by decide) rfl rfl (fun e6_2 => ?_) (fun e6_2 => ?_)
  · refine w_bipush (v := -3) (n' := 50) dX6_tells_48 rfl (by decide) ?_
    exact w_iret dX6_tells_50 rfl ⟨by simp_all [tellF, FM], rfl⟩
  refine w_tc (4) (tgt := 51) dX6_tells_6 (by decide) (by decide) rfl rfl (fun e6_3 => ?_) (fun e6_3 => ?_)
  · refine w_bipush (v := 9) (n' := 53) dX6_tells_51 rfl (by decide) ?_
    refine w_aload_n (i := 0) (n' := 54) dX6_tells_53 rfl rfl rfl ?_
    refine w_iload_n (i := 1) (n' := 55) dX6_tells_54 rfl rfl rfl ?_
    refine w_iconst (v := 4) (n' := 56) dX6_tells_55 rfl rfl ?_
    refine v_E (ci := 6) (n' := 59) dX6_tells_56 rfl lRX6_70 okX6_its voX6_its ⟨⟨Nat.le_of_ble_eq_true rfl, Nat.le_of_ble_eq_true rfl⟩, Nat.le_of_ble_eq_true rfl, Nat.le_of_ble_eq_true rfl⟩ (c6_its (i := i) (j := 4) _ _ rfl (by decide) (by omega) _) rfl rfl (Nat.le_of_ble_eq_true rfl) rfl (Nat.le_of_ble_eq_true rfl) rfl ?_
    refine s_E (n' := 62) dX6_tells_59 rfl lRX6_79 okX6_least stX6_least ⟨⟨Nat.le_of_ble_eq_true rfl, Nat.le_of_ble_eq_true rfl⟩, Nat.le_of_ble_eq_true rfl, Nat.le_of_ble_eq_true rfl⟩ (c6_least _ _ _) rfl rfl (Nat.le_of_ble_eq_true rfl) ?_
    refine w_iconst (v := 3) (n' := 63) dX6_tells_62 rfl rfl ?_
    refine w_isub (n' := 64) dX6_tells_63 rfl ?_
    exact w_iret dX6_tells_64 rfl ⟨by rw [show minI 9 (mem 51 (6 + 5 * i + 4)) - 3 = -3 + minI 9 (mem 51 (6 + 5 * i + 4)) from by rw [Int32.sub_eq_add_neg, Int32.add_comm]]; simp_all [tellF, FM], rfl⟩
  refine w_tc (5) (tgt := 65) dX6_tells_6 (by decide) (by decide) rfl rfl (fun e6_4 => ?_) (fun e6_4 => ?_)
  · refine w_iconst (v := 0) (n' := 66) dX6_tells_65 rfl rfl ?_
    exact w_iret dX6_tells_66 rfl ⟨by simp_all [tellF, FM], rfl⟩
  refine w_tc (6) (tgt := 67) dX6_tells_6 (by decide) (by decide) rfl rfl (fun e6_5 => ?_) (fun e6_5 => ?_)
  · refine w_iconst (v := 4) (n' := 68) dX6_tells_67 rfl rfl ?_
    exact w_iret dX6_tells_68 rfl ⟨by simp_all [tellF, FM], rfl⟩
  refine w_td [1, 2, 3, 4, 5, 6] (tgt := 69) dX6_tells_6 rfl (by decide) (List.forall_mem_cons.mpr ⟨e6_0, (List.forall_mem_cons.mpr ⟨e6_1, (List.forall_mem_cons.mpr ⟨e6_2, (List.forall_mem_cons.mpr ⟨e6_3, (List.forall_mem_cons.mpr ⟨e6_4, (List.forall_mem_cons.mpr ⟨e6_5, (fun _ h => absurd h List.not_mem_nil)⟩)⟩)⟩)⟩)⟩)⟩) ?_
  refine w_iconst (v := 1) (n' := 70) dX6_tells_69 rfl rfl ?_
  exact w_iret dX6_tells_70 rfl ⟨by simp_all [tellF, FM], rfl⟩
set_option maxHeartbeats 4000000 in
theorem c6_days {i n : Nat} {mem : Mem} (h : MO mem n) (hi : i < n) : CnE mX6_days [.ref 50, .int (nI i)] mem (some (.int (DM mem i))) mem := by
  have h8 := h.2.1
  obtain ⟨w, hw1, hw2⟩ := h.2.2.1
  obtain ⟨hd, hd1, hd2, hd3⟩ := (h.2.2.2 i hi).2.2.1
  obtain ⟨t, ht1, ht2⟩ := (h.2.2.2 i hi).2.1
  obtain ⟨za, zb, zc, ha, hb, hc, H1, H2, H3⟩ := reap_zones (kind := FM mem i 0) hd3 hw2 hd1 hd2 hw1
  have hloc : mem 51 (6 + 5 * i + 1) = nI t := ht2
  refine Cn.of (ls := [some (.ref 50), some (.int (nI i)), none, none, none]) (by decide) rfl (Nat.le_of_ble_eq_true rfl) ?_
  refine w_aload_n (i := 0) (n' := 1) dX6_days_0 rfl rfl rfl ?_
  refine w_iload_n (i := 1) (n' := 2) dX6_days_1 rfl rfl rfl ?_
  refine w_iconst (v := 1) (n' := 3) dX6_days_2 rfl rfl ?_
  refine v_E (ci := 6) (n' := 6) dX6_days_3 rfl lRX6_70 okX6_its voX6_its ⟨⟨Nat.le_of_ble_eq_true rfl, Nat.le_of_ble_eq_true rfl⟩, Nat.le_of_ble_eq_true rfl, Nat.le_of_ble_eq_true rfl⟩ (c6_its (i := i) (j := 1) _ _ rfl (by decide) (by omega) _) rfl rfl (Nat.le_of_ble_eq_true rfl) rfl (Nat.le_of_ble_eq_true rfl) rfl ?_
  rw [hloc]
  refine w_istore_n (i := 2) (n' := 7) (ls' := [_, _, _, _, _]) dX6_days_6 rfl rfl (Nat.le_of_ble_eq_true rfl) rfl rfl ?_
  refine w_iconst (v := 0) (n' := 8) dX6_days_7 rfl rfl ?_
  refine w_istore_n (i := 3) (n' := 9) (ls' := [_, _, _, _, _]) dX6_days_8 rfl rfl (Nat.le_of_ble_eq_true rfl) rfl rfl ?_
  refine w_iload_n (i := 2) (n' := 10) dX6_days_9 rfl rfl rfl ?_
  refine w_bipush (v := 20) (n' := 12) dX6_days_10 rfl (by decide) ?_
  refine w_icmp_le (n' := 15) (tgt := 40) dX6_days_12 rfl rfl (fun h12 => ?_) (fun h12 => ?_)
  · have t20 : t ≤ 20 := by
      rcases Nat.lt_or_ge 20 t with q | q
      · exact absurd (y20 q (by omega)) (nlt_of_le h12)
      · exact q
    have L : ∀ (k : Nat) (s c : Int32) (lx : Option Value), s.toInt ≤ 20 → -43 ≤ s.toInt → s.toInt ≤ k → Vd (FM mem i 0) (FM mem i 2) (mem 51 3) (s, c) = DM mem i → Wm mX6_days (zM mX6_days (fun r' m' => r' = (some (.int (DM mem i))) ∧ m' = mem)) 40 [some (.ref 50), some (.int (nI i)), some (.int s), some (.int c), lx] [] mem := by
      intro k
      induction k with
      | zero =>
        intro s c lx s1 s2 s3 hV
        rw [Vd_neg (by omega)] at hV
        refine w_iload_n (i := 2) (n' := 41) dX6_days_40 rfl rfl rfl ?_
        refine w_if_le (n' := 44) (tgt := 59) dX6_days_41 rfl rfl (fun h41 => ?_) (fun h41 => absurd (by rw [Int32.le_iff_toInt_le]; have e0 : (0 : Int32).toInt = 0 := (by decide); omega) h41)
        refine w_iload_n (i := 3) (n' := 60) dX6_days_59 rfl rfl rfl ?_
        exact w_iret dX6_days_60 rfl ⟨by rw [hV], rfl⟩
      | succ k ih =>
        intro s c lx s1 s2 s3 hV
        refine w_iload_n (i := 2) (n' := 41) dX6_days_40 rfl rfl rfl ?_
        refine w_if_le (n' := 44) (tgt := 59) dX6_days_41 rfl rfl (fun h41 => ?_) (fun h41 => ?_)
        · have s0 : s.toInt ≤ 0 := by
            rw [Int32.le_iff_toInt_le] at h41
            have e0 : (0 : Int32).toInt = 0 := by decide
            omega
          rw [Vd_neg s0] at hV
          refine w_iload_n (i := 3) (n' := 60) dX6_days_59 rfl rfl rfl ?_
          exact w_iret dX6_days_60 rfl ⟨by rw [hV], rfl⟩
        · obtain ⟨u, hu1, hu2, hu3⟩ : ∃ u : Nat, 0 < u ∧ s.toInt = u ∧ s = nI u := by
            have s0 : ¬ s.toInt ≤ 0 := fun q => h41 (by rw [Int32.le_iff_toInt_le]; have e0 : (0 : Int32).toInt = 0 := (by decide); omega)
            exact ⟨s.toInt.toNat, by omega, by omega, nI_ofInt (by omega)⟩
          have st := Vd_step hb hc H2 H3 hu1 (by omega) c
          rw [← hu3] at st
          refine w_iload_n (i := 2) (n' := 45) dX6_days_44 rfl rfl rfl ?_
          refine w_aload_n (i := 0) (n' := 46) dX6_days_45 rfl rfl rfl ?_
          refine w_iload_n (i := 1) (n' := 47) dX6_days_46 rfl rfl rfl ?_
          refine w_iload_n (i := 2) (n' := 48) dX6_days_47 rfl rfl rfl ?_
          refine v_E (ci := 6) (n' := 51) dX6_days_48 rfl lRX6_76 okX6_reaps voX6_reaps ⟨⟨Nat.le_of_ble_eq_true rfl, Nat.le_of_ble_eq_true rfl⟩, Nat.le_of_ble_eq_true rfl, Nat.le_of_ble_eq_true rfl⟩ (c6_reaps h hi _) rfl rfl (Nat.le_of_ble_eq_true rfl) rfl (Nat.le_of_ble_eq_true rfl) rfl ?_
          refine w_isub (n' := 52) dX6_days_51 rfl ?_
          refine w_istore_n (i := 2) (n' := 53) (ls' := [_, _, _, _, _]) dX6_days_52 rfl rfl (Nat.le_of_ble_eq_true rfl) rfl rfl ?_
          refine w_iinc (n' := 56) (v := c + 1) (ls' := [_, _, _, _, _]) dX6_days_53 rfl rfl rfl (Nat.le_of_ble_eq_true rfl) rfl rfl ?_
          refine w_goto (tgt := 40) dX6_days_56 rfl ?_
          exact ih _ _ _ (by omega) (by omega) (by omega) (by rw [st.1]; exact hV)
    exact L 20 _ _ _ (by rw [nI_toInt (by omega)]; omega) (by rw [nI_toInt (by omega)]; omega) (by rw [nI_toInt (by omega)]; omega) (by rw [← day_lo (by rw [nI_toInt (by omega)]; omega)]; unfold DM; rw [ht2])
  · have t20 : 20 < t := by
      rcases Nat.lt_or_ge 20 t with q | q
      · exact q
      · exact absurd (lt_of_nle h12) (n20 q)
    obtain ⟨d, d1, d2, d3, d4, d5⟩ := day_hi ha H1 t20 ht1
    refine w_aload_n (i := 0) (n' := 16) dX6_days_15 rfl rfl rfl ?_
    refine w_iload_n (i := 1) (n' := 17) dX6_days_16 rfl rfl rfl ?_
    refine w_iload_n (i := 2) (n' := 18) dX6_days_17 rfl rfl rfl ?_
    refine v_E (ci := 6) (n' := 21) dX6_days_18 rfl lRX6_76 okX6_reaps voX6_reaps ⟨⟨Nat.le_of_ble_eq_true rfl, Nat.le_of_ble_eq_true rfl⟩, Nat.le_of_ble_eq_true rfl, Nat.le_of_ble_eq_true rfl⟩ (c6_reaps h hi _) rfl rfl (Nat.le_of_ble_eq_true rfl) rfl (Nat.le_of_ble_eq_true rfl) rfl ?_
    refine w_istore (n' := 23) (ls' := [_, _, _, _, _]) dX6_days_21 rfl (Nat.le_of_ble_eq_true rfl) rfl rfl ?_
    refine w_iload_n (i := 2) (n' := 24) dX6_days_23 rfl rfl rfl ?_
    refine w_bipush (v := 21) (n' := 26) dX6_days_24 rfl (by decide) ?_
    refine w_isub (n' := 27) dX6_days_26 rfl ?_
    refine w_iload (n' := 29) dX6_days_27 rfl rfl ?_
    refine w_idiv (n' := 30) dX6_days_29 rfl (by rw [d5]; exact nI_ne0 (by omega) (by omega)) ?_
    refine w_iconst (v := 1) (n' := 31) dX6_days_30 rfl rfl ?_
    refine w_iadd (n' := 32) dX6_days_31 rfl ?_
    rw [d1]
    refine w_istore_n (i := 3) (n' := 33) (ls' := [_, _, _, _, _]) dX6_days_32 rfl rfl (Nat.le_of_ble_eq_true rfl) rfl rfl ?_
    refine w_iload_n (i := 2) (n' := 34) dX6_days_33 rfl rfl rfl ?_
    refine w_iload_n (i := 3) (n' := 35) dX6_days_34 rfl rfl rfl ?_
    refine w_iload (n' := 37) dX6_days_35 rfl rfl ?_
    refine w_imul (n' := 38) dX6_days_37 rfl ?_
    refine w_isub (n' := 39) dX6_days_38 rfl ?_
    refine w_istore_n (i := 2) (n' := 40) (ls' := [_, _, _, _, _]) dX6_days_39 rfl rfl (Nat.le_of_ble_eq_true rfl) rfl rfl ?_
    have L : ∀ (k : Nat) (s c : Int32) (lx : Option Value), s.toInt ≤ 20 → -43 ≤ s.toInt → s.toInt ≤ k → Vd (FM mem i 0) (FM mem i 2) (mem 51 3) (s, c) = DM mem i → Wm mX6_days (zM mX6_days (fun r' m' => r' = (some (.int (DM mem i))) ∧ m' = mem)) 40 [some (.ref 50), some (.int (nI i)), some (.int s), some (.int c), lx] [] mem := by
      intro k
      induction k with
      | zero =>
        intro s c lx s1 s2 s3 hV
        rw [Vd_neg (by omega)] at hV
        refine w_iload_n (i := 2) (n' := 41) dX6_days_40 rfl rfl rfl ?_
        refine w_if_le (n' := 44) (tgt := 59) dX6_days_41 rfl rfl (fun h41 => ?_) (fun h41 => absurd (by rw [Int32.le_iff_toInt_le]; have e0 : (0 : Int32).toInt = 0 := (by decide); omega) h41)
        refine w_iload_n (i := 3) (n' := 60) dX6_days_59 rfl rfl rfl ?_
        exact w_iret dX6_days_60 rfl ⟨by rw [hV], rfl⟩
      | succ k ih =>
        intro s c lx s1 s2 s3 hV
        refine w_iload_n (i := 2) (n' := 41) dX6_days_40 rfl rfl rfl ?_
        refine w_if_le (n' := 44) (tgt := 59) dX6_days_41 rfl rfl (fun h41 => ?_) (fun h41 => ?_)
        · have s0 : s.toInt ≤ 0 := by
            rw [Int32.le_iff_toInt_le] at h41
            have e0 : (0 : Int32).toInt = 0 := by decide
            omega
          rw [Vd_neg s0] at hV
          refine w_iload_n (i := 3) (n' := 60) dX6_days_59 rfl rfl rfl ?_
          exact w_iret dX6_days_60 rfl ⟨by rw [hV], rfl⟩
        · obtain ⟨u, hu1, hu2, hu3⟩ : ∃ u : Nat, 0 < u ∧ s.toInt = u ∧ s = nI u := by
            have s0 : ¬ s.toInt ≤ 0 := fun q => h41 (by rw [Int32.le_iff_toInt_le]; have e0 : (0 : Int32).toInt = 0 := (by decide); omega)
            exact ⟨s.toInt.toNat, by omega, by omega, nI_ofInt (by omega)⟩
          have st := Vd_step hb hc H2 H3 hu1 (by omega) c
          rw [← hu3] at st
          refine w_iload_n (i := 2) (n' := 45) dX6_days_44 rfl rfl rfl ?_
          refine w_aload_n (i := 0) (n' := 46) dX6_days_45 rfl rfl rfl ?_
          refine w_iload_n (i := 1) (n' := 47) dX6_days_46 rfl rfl rfl ?_
          refine w_iload_n (i := 2) (n' := 48) dX6_days_47 rfl rfl rfl ?_
          refine v_E (ci := 6) (n' := 51) dX6_days_48 rfl lRX6_76 okX6_reaps voX6_reaps ⟨⟨Nat.le_of_ble_eq_true rfl, Nat.le_of_ble_eq_true rfl⟩, Nat.le_of_ble_eq_true rfl, Nat.le_of_ble_eq_true rfl⟩ (c6_reaps h hi _) rfl rfl (Nat.le_of_ble_eq_true rfl) rfl (Nat.le_of_ble_eq_true rfl) rfl ?_
          refine w_isub (n' := 52) dX6_days_51 rfl ?_
          refine w_istore_n (i := 2) (n' := 53) (ls' := [_, _, _, _, _]) dX6_days_52 rfl rfl (Nat.le_of_ble_eq_true rfl) rfl rfl ?_
          refine w_iinc (n' := 56) (v := c + 1) (ls' := [_, _, _, _, _]) dX6_days_53 rfl rfl rfl (Nat.le_of_ble_eq_true rfl) rfl rfl ?_
          refine w_goto (tgt := 40) dX6_days_56 rfl ?_
          exact ih _ _ _ (by omega) (by omega) (by omega) (by rw [st.1]; exact hV)
    exact L 20 _ _ _ d3 d4 (by omega) (by rw [← d2]; unfold DM; rw [ht2])
def cdM (m : Mem) (n : Nat) : Mem := upR m 60 (fun f => if f < n then DM m f else m 60 f)
def cdP (m : Mem) (i : Nat) : Mem := upR m 60 (fun f => if f < i then DM m f else m 60 f)
theorem cdP_0 (m : Mem) : cdP m 0 = m := by
  unfold cdP
  simp only [Nat.not_lt_zero, if_false]
  exact upR_self m 60
theorem cdP_o (m : Mem) (i : Nat) {a : Nat} (h : a ≠ 60) : cdP m i a = m a := upR_ne _ _ h
theorem cdP_succ (m : Mem) (i : Nat) : up2 (cdP m i) 60 i (DM m i) = cdP m (i + 1) := by
  funext a
  by_cases h : a = 60
  · subst h
    rw [up2_same]
    unfold cdP
    rw [upR_same, upR_same]
    funext j
    by_cases hj : j = i
    · subst hj; simp [upd]
    · simp only [upd, hj, if_false]
      by_cases h2 : j < i
      · rw [if_pos h2, if_pos (by omega)]
      · rw [if_neg h2, if_neg (by omega)]
  · rw [up2_ne _ _ _ h, cdP_o _ _ h, cdP_o _ _ h]
theorem MO_of {m m' : Mem} {n : Nat} (h : MO m n) (e : m' 51 = m 51) : MO m' n := by
  unfold MO FM at *
  rw [e]
  exact h
theorem DM_of {m m' : Mem} (e : m' 51 = m 51) : DM m' = DM m := by
  funext i
  unfold DM FM
  rw [e]
def mnD (D : Nat → Int32) (m0 : Int32) : Nat → Int32
  | 0 => m0
  | i + 1 => minI (mnD D m0 i) (D i)
def eqB (D : Nat → Int32) (d : Int32) : Nat → Bool := fun i => decide (D i = d)
def lastS (D : Nat → Int32) (n : Nat) : Int32 := bitT (eqB D (mx D n)) n
def firstS (D : Nat → Int32) (n : Nat) : Int32 := bitT (eqB D (mnD D (mx D n) n)) n
def nxD (D : Nat → Int32) (L : Int32) : Nat → Int32
  | 0 => -1
  | i + 1 => if (L >>> (nI i &&& 31)) &&& 1 = 0 then maxI (nxD D L i) (D i) else nxD D L i
theorem bitT_congr {P Q : Nat → Bool} : ∀ n, (∀ i, i < n → P i = Q i) → bitT P n = bitT Q n := by
  intro n
  induction n with
  | zero => intro _; rfl
  | succ n ih => intro h; rw [bitT, bitT, ih (fun i hi => h i (by omega)), h n (by omega)]
theorem mnD_congr {D E : Nat → Int32} {m0 : Int32} : ∀ n, (∀ i, i < n → D i = E i) → mnD D m0 n = mnD E m0 n := by
  intro n
  induction n with
  | zero => intro _; rfl
  | succ n ih => intro h; rw [mnD, mnD, ih (fun i hi => h i (by omega)), h n (by omega)]
theorem nxD_congr {D E : Nat → Int32} {L : Int32} : ∀ n, (∀ i, i < n → D i = E i) → nxD D L n = nxD E L n := by
  intro n
  induction n with
  | zero => intro _; rfl
  | succ n ih => intro h; rw [nxD, nxD, ih (fun i hi => h i (by omega)), h n (by omega)]
theorem eqB_congr {D E : Nat → Int32} {d : Int32} {n : Nat} (h : ∀ i, i < n → D i = E i) : bitT (eqB D d) n = bitT (eqB E d) n := bitT_congr n (fun i hi => by unfold eqB; rw [h i hi])
theorem cd_at (m : Mem) {n i : Nat} (h : i < n) : cdM m n 60 i = DM m i := by
  unfold cdM
  rw [upR_same, if_pos h]
theorem cd_o (m : Mem) (n : Nat) {a : Nat} (h : a ≠ 60) : cdM m n a = m a := upR_ne _ _ h
theorem or_0 (x : Int32) : x ||| 0 = x := by
  apply Int32.toBitVec_inj.mp
  simp
set_option maxHeartbeats 4000000 in
theorem c6_countsDays {n : Nat} {mem : Mem} (h : MO mem n) : CnE mX6_countsDays [.ref 50] mem none (cdM mem n) := by
  have h8 := h.2.1
  refine Cn.of (ls := [some (.ref 50), none]) (by decide) rfl (Nat.le_of_ble_eq_true rfl) ?_
  refine w_iconst (v := 0) (n' := 1) dX6_countsDays_0 rfl rfl ?_
  refine w_istore_n (i := 1) (n' := 2) (ls' := [_, _]) dX6_countsDays_1 rfl rfl (Nat.le_of_ble_eq_true rfl) rfl rfl ?_
  have L : ∀ (i : Nat) (s : Mem), i ≤ n → s = cdP mem i → Wm mX6_countsDays (zM mX6_countsDays (fun r' m' => r' = none ∧ m' = (cdM mem n))) 2 [some (.ref 50), some (.int (nI i))] [] s := by
    refine for_ind n ?_
    intro i s hi h1 ih
    have e51 : s 51 = mem 51 := by rw [h1]; exact cdP_o _ _ (by decide)
    have hp := MO_of h e51
    refine w_iload_n (i := 1) (n' := 3) dX6_countsDays_2 rfl rfl rfl ?_
    refine w_aload_n (i := 0) (n' := 4) dX6_countsDays_3 rfl rfl rfl ?_
    refine w_get (ci := 6) (j := 0) (n' := 7) dX6_countsDays_4 rfl fRX6_7 (Nat.le_of_ble_eq_true rfl) (Nat.le_of_ble_eq_true rfl) rfl rfl ?_
    refine w_iconst (v := 0) (n' := 8) dX6_countsDays_7 rfl rfl ?_
    refine w_iald (n := 0) (n' := 9) dX6_countsDays_8 rfl rfl (by decide) (by decide) ?_
    refine w_icmp_ge (n' := 12) (tgt := 29) dX6_countsDays_9 rfl rfl (fun h9 => ?_) (fun h9 => ?_)
    · have hin : i = n := by
        rcases Nat.lt_or_ge i n with c | c
        · exact absurd h9 (by rw [hp.1]; exact nI_ge (b := n) c (by omega))
        · omega
      subst hin
      exact w_vret dX6_countsDays_29 rfl ⟨rfl, h1⟩
    · have hlt : i < n := by
        rcases Nat.lt_or_ge i n with c | c
        · exact c
        · exact absurd (by rw [hp.1]; exact nI_le (a := n) c (by omega)) h9
      refine w_aload_n (i := 0) (n' := 13) dX6_countsDays_12 rfl rfl rfl ?_
      refine w_get (ci := 6) (j := 11) (n' := 16) dX6_countsDays_13 rfl fRX6_37 (Nat.le_of_ble_eq_true rfl) (Nat.le_of_ble_eq_true rfl) rfl rfl ?_
      refine w_iload_n (i := 1) (n' := 17) dX6_countsDays_16 rfl rfl rfl ?_
      refine w_aload_n (i := 0) (n' := 18) dX6_countsDays_17 rfl rfl rfl ?_
      refine w_iload_n (i := 1) (n' := 19) dX6_countsDays_18 rfl rfl rfl ?_
      refine v_E (ci := 6) (n' := 22) dX6_countsDays_19 rfl lRX6_88 okX6_days voX6_days ⟨⟨Nat.le_of_ble_eq_true rfl, Nat.le_of_ble_eq_true rfl⟩, Nat.le_of_ble_eq_true rfl, Nat.le_of_ble_eq_true rfl⟩ (c6_days hp hlt) rfl rfl (Nat.le_of_ble_eq_true rfl) rfl (Nat.le_of_ble_eq_true rfl) rfl ?_
      refine w_iast (n := i) (n' := 23) dX6_countsDays_22 rfl rfl rfl (show i < 8 by omega) ?_
      refine w_iinc (n' := 26) (v := nI (i + 1)) (ls' := [_, _]) dX6_countsDays_23 rfl rfl (nI_1 i) (Nat.le_of_ble_eq_true rfl) rfl rfl ?_
      refine w_goto (tgt := 2) dX6_countsDays_26 rfl ?_
      exact ih hlt _ (by rw [DM_of e51, h1, cdP_succ])
  exact L 0 _ (Nat.zero_le _) (cdP_0 _).symm
set_option maxHeartbeats 4000000 in
theorem c6_mostDays {n : Nat} {mem : Mem} (h : mem 51 0 = nI n) (h8 : n ≤ 8) : CnE mX6_mostDays [.ref 50] mem (some (.int (mx (mem 60) n))) mem := by
  refine Cn.of (ls := [some (.ref 50), none, none]) (by decide) rfl (Nat.le_of_ble_eq_true rfl) ?_
  refine w_iconst (v := 0) (n' := 1) dX6_mostDays_0 rfl rfl ?_
  refine w_istore_n (i := 1) (n' := 2) (ls' := [_, _, _]) dX6_mostDays_1 rfl rfl (Nat.le_of_ble_eq_true rfl) rfl rfl ?_
  refine w_iconst (v := 0) (n' := 3) dX6_mostDays_2 rfl rfl ?_
  refine w_istore_n (i := 2) (n' := 4) (ls' := [_, _, _]) dX6_mostDays_3 rfl rfl (Nat.le_of_ble_eq_true rfl) rfl rfl ?_
  have L : ∀ (i : Nat) (s : Int32), i ≤ n → s = mx (mem 60) i → Wm mX6_mostDays (zM mX6_mostDays (fun r' m' => r' = (some (.int (mx (mem 60) n))) ∧ m' = mem)) 4 [some (.ref 50), some (.int s), some (.int (nI i))] [] mem := by
    refine for_ind n ?_
    intro i s hi h1 ih
    refine w_iload_n (i := 2) (n' := 5) dX6_mostDays_4 rfl rfl rfl ?_
    refine w_aload_n (i := 0) (n' := 6) dX6_mostDays_5 rfl rfl rfl ?_
    refine w_get (ci := 6) (j := 0) (n' := 9) dX6_mostDays_6 rfl fRX6_7 (Nat.le_of_ble_eq_true rfl) (Nat.le_of_ble_eq_true rfl) rfl rfl ?_
    refine w_iconst (v := 0) (n' := 10) dX6_mostDays_9 rfl rfl ?_
    refine w_iald (n := 0) (n' := 11) dX6_mostDays_10 rfl rfl (by decide) (by decide) ?_
    refine w_icmp_ge (n' := 14) (tgt := 31) dX6_mostDays_11 rfl rfl (fun h11 => ?_) (fun h11 => ?_)
    · have hin : i = n := by
        rcases Nat.lt_or_ge i n with c | c
        · exact absurd h11 (by rw [h]; exact nI_ge (b := n) c (by omega))
        · omega
      subst hin
      refine w_iload_n (i := 1) (n' := 32) dX6_mostDays_31 rfl rfl rfl ?_
      exact w_iret dX6_mostDays_32 rfl ⟨by rw [h1], rfl⟩
    · have hlt : i < n := by
        rcases Nat.lt_or_ge i n with c | c
        · exact c
        · exact absurd (by rw [h]; exact nI_le (a := n) c (by omega)) h11
      refine w_iload_n (i := 1) (n' := 15) dX6_mostDays_14 rfl rfl rfl ?_
      refine w_aload_n (i := 0) (n' := 16) dX6_mostDays_15 rfl rfl rfl ?_
      refine w_get (ci := 6) (j := 11) (n' := 19) dX6_mostDays_16 rfl fRX6_37 (Nat.le_of_ble_eq_true rfl) (Nat.le_of_ble_eq_true rfl) rfl rfl ?_
      refine w_iload_n (i := 2) (n' := 20) dX6_mostDays_19 rfl rfl rfl ?_
      refine w_iald (n := i) (n' := 21) dX6_mostDays_20 rfl rfl rfl (show i < 8 by omega) ?_
      refine s_E (n' := 24) dX6_mostDays_21 rfl lRX6_73 okX6_greatest stX6_greatest ⟨⟨Nat.le_of_ble_eq_true rfl, Nat.le_of_ble_eq_true rfl⟩, Nat.le_of_ble_eq_true rfl, Nat.le_of_ble_eq_true rfl⟩ (c6_greatest _ _ _) rfl rfl (Nat.le_of_ble_eq_true rfl) ?_
      refine w_istore_n (i := 1) (n' := 25) (ls' := [_, _, _]) dX6_mostDays_24 rfl rfl (Nat.le_of_ble_eq_true rfl) rfl rfl ?_
      refine w_iinc (n' := 28) (v := nI (i + 1)) (ls' := [_, _, _]) dX6_mostDays_25 rfl rfl (nI_1 i) (Nat.le_of_ble_eq_true rfl) rfl rfl ?_
      refine w_goto (tgt := 4) dX6_mostDays_28 rfl ?_
      exact ih hlt _ (by rw [h1]; rfl)
  exact L 0 0 (Nat.zero_le _) rfl
set_option maxHeartbeats 4000000 in
theorem c6_withDays {n : Nat} {mem : Mem} (h : mem 51 0 = nI n) (h8 : n ≤ 8) (d : Int32) : CnE mX6_withDays [.ref 50, .int d] mem (some (.int (bitT (eqB (mem 60) d) n))) mem := by
  refine Cn.of (ls := [some (.ref 50), some (.int d), none, none]) (by decide) rfl (Nat.le_of_ble_eq_true rfl) ?_
  refine w_iconst (v := 0) (n' := 1) dX6_withDays_0 rfl rfl ?_
  refine w_istore_n (i := 2) (n' := 2) (ls' := [_, _, _, _]) dX6_withDays_1 rfl rfl (Nat.le_of_ble_eq_true rfl) rfl rfl ?_
  refine w_iconst (v := 0) (n' := 3) dX6_withDays_2 rfl rfl ?_
  refine w_istore_n (i := 3) (n' := 4) (ls' := [_, _, _, _]) dX6_withDays_3 rfl rfl (Nat.le_of_ble_eq_true rfl) rfl rfl ?_
  have L : ∀ (i : Nat) (s : Int32), i ≤ n → s = bitT (eqB (mem 60) d) i → Wm mX6_withDays (zM mX6_withDays (fun r' m' => r' = (some (.int (bitT (eqB (mem 60) d) n))) ∧ m' = mem)) 4 [some (.ref 50), some (.int d), some (.int s), some (.int (nI i))] [] mem := by
    refine for_ind n ?_
    intro i s hi h1 ih
    refine w_iload_n (i := 3) (n' := 5) dX6_withDays_4 rfl rfl rfl ?_
    refine w_aload_n (i := 0) (n' := 6) dX6_withDays_5 rfl rfl rfl ?_
    refine w_get (ci := 6) (j := 0) (n' := 9) dX6_withDays_6 rfl fRX6_7 (Nat.le_of_ble_eq_true rfl) (Nat.le_of_ble_eq_true rfl) rfl rfl ?_
    refine w_iconst (v := 0) (n' := 10) dX6_withDays_9 rfl rfl ?_
    refine w_iald (n := 0) (n' := 11) dX6_withDays_10 rfl rfl (by decide) (by decide) ?_
    refine w_icmp_ge (n' := 14) (tgt := 40) dX6_withDays_11 rfl rfl (fun h11 => ?_) (fun h11 => ?_)
    · have hin : i = n := by
        rcases Nat.lt_or_ge i n with c | c
        · exact absurd h11 (by rw [h]; exact nI_ge (b := n) c (by omega))
        · omega
      subst hin
      refine w_iload_n (i := 2) (n' := 41) dX6_withDays_40 rfl rfl rfl ?_
      exact w_iret dX6_withDays_41 rfl ⟨by rw [h1], rfl⟩
    · have hlt : i < n := by
        rcases Nat.lt_or_ge i n with c | c
        · exact c
        · exact absurd (by rw [h]; exact nI_le (a := n) c (by omega)) h11
      refine w_iload_n (i := 2) (n' := 15) dX6_withDays_14 rfl rfl rfl ?_
      refine w_aload_n (i := 0) (n' := 16) dX6_withDays_15 rfl rfl rfl ?_
      refine w_get (ci := 6) (j := 11) (n' := 19) dX6_withDays_16 rfl fRX6_37 (Nat.le_of_ble_eq_true rfl) (Nat.le_of_ble_eq_true rfl) rfl rfl ?_
      refine w_iload_n (i := 3) (n' := 20) dX6_withDays_19 rfl rfl rfl ?_
      refine w_iald (n := i) (n' := 21) dX6_withDays_20 rfl rfl rfl (show i < 8 by omega) ?_
      refine w_iload_n (i := 1) (n' := 22) dX6_withDays_21 rfl rfl rfl ?_
      refine w_icmp_ne (n' := 25) (tgt := 31) dX6_withDays_22 rfl rfl (fun h22 => ?_) (fun h22 => ?_)
      · refine w_iconst (v := 0) (n' := 32) dX6_withDays_31 rfl rfl ?_
        refine w_ior (n' := 33) dX6_withDays_32 rfl ?_
        refine w_istore_n (i := 2) (n' := 34) (ls' := [_, _, _, _]) dX6_withDays_33 rfl rfl (Nat.le_of_ble_eq_true rfl) rfl rfl ?_
        refine w_iinc (n' := 37) (v := nI (i + 1)) (ls' := [_, _, _, _]) dX6_withDays_34 rfl rfl (nI_1 i) (Nat.le_of_ble_eq_true rfl) rfl rfl ?_
        refine w_goto (tgt := 4) dX6_withDays_37 rfl ?_
        exact ih hlt _ (by rw [h1, or_0, bitT, if_neg (by unfold eqB; rw [decide_eq_true_iff]; exact h22)])
      · refine w_iconst (v := 1) (n' := 26) dX6_withDays_25 rfl rfl ?_
        refine w_iload_n (i := 3) (n' := 27) dX6_withDays_26 rfl rfl rfl ?_
        refine w_ishl (n' := 28) dX6_withDays_27 rfl ?_
        refine w_goto (tgt := 32) dX6_withDays_28 rfl ?_
        refine w_ior (n' := 33) dX6_withDays_32 rfl ?_
        refine w_istore_n (i := 2) (n' := 34) (ls' := [_, _, _, _]) dX6_withDays_33 rfl rfl (Nat.le_of_ble_eq_true rfl) rfl rfl ?_
        refine w_iinc (n' := 37) (v := nI (i + 1)) (ls' := [_, _, _, _]) dX6_withDays_34 rfl rfl (nI_1 i) (Nat.le_of_ble_eq_true rfl) rfl rfl ?_
        refine w_goto (tgt := 4) dX6_withDays_37 rfl ?_
        exact ih hlt _ (by rw [h1, bitT, if_pos (by unfold eqB; rw [decide_eq_true_iff]; simpa using h22)])
  exact L 0 0 (Nat.zero_le _) rfl
theorem cd_MO {m : Mem} {n : Nat} (h : MO m n) : MO (cdM m n) n := MO_of h (cd_o _ _ (by decide))
theorem cd_mx {m : Mem} {n : Nat} : mx (cdM m n 60) n = mx (DM m) n := mx_congr n (fun i hi => cd_at m hi)
theorem cd_last {m : Mem} {n : Nat} : bitT (eqB (cdM m n 60) (mx (cdM m n 60) n)) n = lastS (DM m) n := by
  rw [cd_mx]
  exact eqB_congr (fun i hi => cd_at m hi)
theorem cd_first {m : Mem} {n : Nat} : bitT (eqB (cdM m n 60) (mnD (cdM m n 60) (mx (cdM m n 60) n) n)) n = firstS (DM m) n := by
  rw [cd_mx, mnD_congr n (fun i hi => cd_at m hi)]
  exact eqB_congr (fun i hi => cd_at m hi)
set_option maxHeartbeats 4000000 in
theorem c6_lasts {n : Nat} {mem : Mem} (h : MO mem n) : CnE mX6_lasts [.ref 50] mem (some (.int (lastS (DM mem) n))) (cdM mem n) := by
  refine Cn.of (ls := [some (.ref 50)]) (by decide) rfl (Nat.le_of_ble_eq_true rfl) ?_
  refine w_aload_n (i := 0) (n' := 1) dX6_lasts_0 rfl rfl rfl ?_
  refine v_E (ci := 6) (n' := 4) dX6_lasts_1 rfl lRX6_109 okX6_countsDays voX6_countsDays ⟨⟨Nat.le_of_ble_eq_true rfl, Nat.le_of_ble_eq_true rfl⟩, Nat.le_of_ble_eq_true rfl, Nat.le_of_ble_eq_true rfl⟩ (c6_countsDays h) rfl rfl (Nat.le_of_ble_eq_true rfl) rfl (Nat.le_of_ble_eq_true rfl) rfl ?_
  refine w_aload_n (i := 0) (n' := 5) dX6_lasts_4 rfl rfl rfl ?_
  refine w_aload_n (i := 0) (n' := 6) dX6_lasts_5 rfl rfl rfl ?_
  refine v_E (ci := 6) (n' := 9) dX6_lasts_6 rfl lRX6_112 okX6_mostDays voX6_mostDays ⟨⟨Nat.le_of_ble_eq_true rfl, Nat.le_of_ble_eq_true rfl⟩, Nat.le_of_ble_eq_true rfl, Nat.le_of_ble_eq_true rfl⟩ (c6_mostDays (cd_MO h).1 h.2.1) rfl rfl (Nat.le_of_ble_eq_true rfl) rfl (Nat.le_of_ble_eq_true rfl) rfl ?_
  refine v_E (ci := 6) (n' := 12) dX6_lasts_9 rfl lRX6_116 okX6_withDays voX6_withDays ⟨⟨Nat.le_of_ble_eq_true rfl, Nat.le_of_ble_eq_true rfl⟩, Nat.le_of_ble_eq_true rfl, Nat.le_of_ble_eq_true rfl⟩ (c6_withDays (cd_MO h).1 h.2.1 _) rfl rfl (Nat.le_of_ble_eq_true rfl) rfl (Nat.le_of_ble_eq_true rfl) rfl ?_
  rw [cd_last]
  exact w_iret dX6_lasts_12 rfl ⟨rfl, rfl⟩
set_option maxHeartbeats 4000000 in
theorem c6_firsts {n : Nat} {mem : Mem} (h : mem 51 0 = nI n) (h8 : n ≤ 8) : CnE mX6_firsts [.ref 50] mem (some (.int (bitT (eqB (mem 60) (mnD (mem 60) (mx (mem 60) n) n)) n))) mem := by
  refine Cn.of (ls := [some (.ref 50), none, none]) (by decide) rfl (Nat.le_of_ble_eq_true rfl) ?_
  refine w_aload_n (i := 0) (n' := 1) dX6_firsts_0 rfl rfl rfl ?_
  refine v_E (ci := 6) (n' := 4) dX6_firsts_1 rfl lRX6_112 okX6_mostDays voX6_mostDays ⟨⟨Nat.le_of_ble_eq_true rfl, Nat.le_of_ble_eq_true rfl⟩, Nat.le_of_ble_eq_true rfl, Nat.le_of_ble_eq_true rfl⟩ (c6_mostDays h h8) rfl rfl (Nat.le_of_ble_eq_true rfl) rfl (Nat.le_of_ble_eq_true rfl) rfl ?_
  refine w_istore_n (i := 1) (n' := 5) (ls' := [_, _, _]) dX6_firsts_4 rfl rfl (Nat.le_of_ble_eq_true rfl) rfl rfl ?_
  refine w_iconst (v := 0) (n' := 6) dX6_firsts_5 rfl rfl ?_
  refine w_istore_n (i := 2) (n' := 7) (ls' := [_, _, _]) dX6_firsts_6 rfl rfl (Nat.le_of_ble_eq_true rfl) rfl rfl ?_
  have L : ∀ (i : Nat) (s : Int32), i ≤ n → s = mnD (mem 60) (mx (mem 60) n) i → Wm mX6_firsts (zM mX6_firsts (fun r' m' => r' = (some (.int (bitT (eqB (mem 60) (mnD (mem 60) (mx (mem 60) n) n)) n))) ∧ m' = mem)) 7 [some (.ref 50), some (.int s), some (.int (nI i))] [] mem := by
    refine for_ind n ?_
    intro i s hi h1 ih
    refine w_iload_n (i := 2) (n' := 8) dX6_firsts_7 rfl rfl rfl ?_
    refine w_aload_n (i := 0) (n' := 9) dX6_firsts_8 rfl rfl rfl ?_
    refine w_get (ci := 6) (j := 0) (n' := 12) dX6_firsts_9 rfl fRX6_7 (Nat.le_of_ble_eq_true rfl) (Nat.le_of_ble_eq_true rfl) rfl rfl ?_
    refine w_iconst (v := 0) (n' := 13) dX6_firsts_12 rfl rfl ?_
    refine w_iald (n := 0) (n' := 14) dX6_firsts_13 rfl rfl (by decide) (by decide) ?_
    refine w_icmp_ge (n' := 17) (tgt := 34) dX6_firsts_14 rfl rfl (fun h14 => ?_) (fun h14 => ?_)
    · have hin : i = n := by
        rcases Nat.lt_or_ge i n with c | c
        · exact absurd h14 (by rw [h]; exact nI_ge (b := n) c (by omega))
        · omega
      refine w_aload_n (i := 0) (n' := 35) dX6_firsts_34 rfl rfl rfl ?_
      refine w_iload_n (i := 1) (n' := 36) dX6_firsts_35 rfl rfl rfl ?_
      refine v_E (ci := 6) (n' := 39) dX6_firsts_36 rfl lRX6_116 okX6_withDays voX6_withDays ⟨⟨Nat.le_of_ble_eq_true rfl, Nat.le_of_ble_eq_true rfl⟩, Nat.le_of_ble_eq_true rfl, Nat.le_of_ble_eq_true rfl⟩ (c6_withDays h h8 _) rfl rfl (Nat.le_of_ble_eq_true rfl) rfl (Nat.le_of_ble_eq_true rfl) rfl ?_
      exact w_iret dX6_firsts_39 rfl ⟨by rw [h1, hin], rfl⟩
    · have hlt : i < n := by
        rcases Nat.lt_or_ge i n with c | c
        · exact c
        · exact absurd (by rw [h]; exact nI_le (a := n) c (by omega)) h14
      refine w_iload_n (i := 1) (n' := 18) dX6_firsts_17 rfl rfl rfl ?_
      refine w_aload_n (i := 0) (n' := 19) dX6_firsts_18 rfl rfl rfl ?_
      refine w_get (ci := 6) (j := 11) (n' := 22) dX6_firsts_19 rfl fRX6_37 (Nat.le_of_ble_eq_true rfl) (Nat.le_of_ble_eq_true rfl) rfl rfl ?_
      refine w_iload_n (i := 2) (n' := 23) dX6_firsts_22 rfl rfl rfl ?_
      refine w_iald (n := i) (n' := 24) dX6_firsts_23 rfl rfl rfl (show i < 8 by omega) ?_
      refine s_E (n' := 27) dX6_firsts_24 rfl lRX6_79 okX6_least stX6_least ⟨⟨Nat.le_of_ble_eq_true rfl, Nat.le_of_ble_eq_true rfl⟩, Nat.le_of_ble_eq_true rfl, Nat.le_of_ble_eq_true rfl⟩ (c6_least _ _ _) rfl rfl (Nat.le_of_ble_eq_true rfl) ?_
      refine w_istore_n (i := 1) (n' := 28) (ls' := [_, _, _]) dX6_firsts_27 rfl rfl (Nat.le_of_ble_eq_true rfl) rfl rfl ?_
      refine w_iinc (n' := 31) (v := nI (i + 1)) (ls' := [_, _, _]) dX6_firsts_28 rfl rfl (nI_1 i) (Nat.le_of_ble_eq_true rfl) rfl rfl ?_
      refine w_goto (tgt := 7) dX6_firsts_31 rfl ?_
      exact ih hlt _ (by rw [h1]; rfl)
  exact L 0 _ (Nat.zero_le _) rfl
set_option maxHeartbeats 4000000 in
theorem c6_last {n : Nat} {mem : Mem} (h : MO mem n) : CnE mX6_last [.ref 50] mem (some (.int (lastS (DM mem) n))) (cdM mem n) := by
  refine Cn.of (ls := [some (.ref 50)]) (by decide) rfl (Nat.le_of_ble_eq_true rfl) ?_
  refine w_aload_n (i := 0) (n' := 1) dX6_last_0 rfl rfl rfl ?_
  refine v_E (ci := 6) (n' := 4) dX6_last_1 rfl lRX6_119 okX6_lasts voX6_lasts ⟨⟨Nat.le_of_ble_eq_true rfl, Nat.le_of_ble_eq_true rfl⟩, Nat.le_of_ble_eq_true rfl, Nat.le_of_ble_eq_true rfl⟩ (c6_lasts h) rfl rfl (Nat.le_of_ble_eq_true rfl) rfl (Nat.le_of_ble_eq_true rfl) rfl ?_
  exact w_iret dX6_last_4 rfl ⟨rfl, rfl⟩
set_option maxHeartbeats 4000000 in
theorem c6_first {n : Nat} {mem : Mem} (h : MO mem n) : CnE mX6_first [.ref 50] mem (some (.int (firstS (DM mem) n))) (cdM mem n) := by
  refine Cn.of (ls := [some (.ref 50)]) (by decide) rfl (Nat.le_of_ble_eq_true rfl) ?_
  refine w_aload_n (i := 0) (n' := 1) dX6_first_0 rfl rfl rfl ?_
  refine v_E (ci := 6) (n' := 4) dX6_first_1 rfl lRX6_109 okX6_countsDays voX6_countsDays ⟨⟨Nat.le_of_ble_eq_true rfl, Nat.le_of_ble_eq_true rfl⟩, Nat.le_of_ble_eq_true rfl, Nat.le_of_ble_eq_true rfl⟩ (c6_countsDays h) rfl rfl (Nat.le_of_ble_eq_true rfl) rfl (Nat.le_of_ble_eq_true rfl) rfl ?_
  refine w_aload_n (i := 0) (n' := 5) dX6_first_4 rfl rfl rfl ?_
  refine v_E (ci := 6) (n' := 8) dX6_first_5 rfl lRX6_122 okX6_firsts voX6_firsts ⟨⟨Nat.le_of_ble_eq_true rfl, Nat.le_of_ble_eq_true rfl⟩, Nat.le_of_ble_eq_true rfl, Nat.le_of_ble_eq_true rfl⟩ (c6_firsts (cd_MO h).1 h.2.1) rfl rfl (Nat.le_of_ble_eq_true rfl) rfl (Nat.le_of_ble_eq_true rfl) rfl ?_
  rw [cd_first]
  exact w_iret dX6_first_8 rfl ⟨rfl, rfl⟩
set_option maxHeartbeats 4000000 in
theorem c6_next {n : Nat} {mem : Mem} (h : MO mem n) : CnE mX6_next [.ref 50] mem (some (.int (bitT (eqB (DM mem) (nxD (DM mem) (lastS (DM mem) n) n)) n))) (cdM mem n) := by
  have h8 := h.2.1
  have hp := cd_MO h
  refine Cn.of (ls := [some (.ref 50), none, none, none]) (by decide) rfl (Nat.le_of_ble_eq_true rfl) ?_
  refine w_aload_n (i := 0) (n' := 1) dX6_next_0 rfl rfl rfl ?_
  refine v_E (ci := 6) (n' := 4) dX6_next_1 rfl lRX6_119 okX6_lasts voX6_lasts ⟨⟨Nat.le_of_ble_eq_true rfl, Nat.le_of_ble_eq_true rfl⟩, Nat.le_of_ble_eq_true rfl, Nat.le_of_ble_eq_true rfl⟩ (c6_lasts h) rfl rfl (Nat.le_of_ble_eq_true rfl) rfl (Nat.le_of_ble_eq_true rfl) rfl ?_
  refine w_istore_n (i := 1) (n' := 5) (ls' := [_, _, _, _]) dX6_next_4 rfl rfl (Nat.le_of_ble_eq_true rfl) rfl rfl ?_
  refine w_iconst (v := -1) (n' := 6) dX6_next_5 rfl rfl ?_
  refine w_istore_n (i := 2) (n' := 7) (ls' := [_, _, _, _]) dX6_next_6 rfl rfl (Nat.le_of_ble_eq_true rfl) rfl rfl ?_
  refine w_iconst (v := 0) (n' := 8) dX6_next_7 rfl rfl ?_
  refine w_istore_n (i := 3) (n' := 9) (ls' := [_, _, _, _]) dX6_next_8 rfl rfl (Nat.le_of_ble_eq_true rfl) rfl rfl ?_
  have L : ∀ (i : Nat) (s : Int32), i ≤ n → s = nxD (cdM mem n 60) (lastS (DM mem) n) i → Wm mX6_next (zM mX6_next (fun r' m' => r' = (some (.int (bitT (eqB (DM mem) (nxD (DM mem) (lastS (DM mem) n) n)) n))) ∧ m' = (cdM mem n))) 9 [some (.ref 50), some (.int (lastS (DM mem) n)), some (.int s), some (.int (nI i))] [] (cdM mem n) := by
    refine for_ind n ?_
    intro i s hi h1 ih
    refine w_iload_n (i := 3) (n' := 10) dX6_next_9 rfl rfl rfl ?_
    refine w_aload_n (i := 0) (n' := 11) dX6_next_10 rfl rfl rfl ?_
    refine w_get (ci := 6) (j := 0) (n' := 14) dX6_next_11 rfl fRX6_7 (Nat.le_of_ble_eq_true rfl) (Nat.le_of_ble_eq_true rfl) rfl rfl ?_
    refine w_iconst (v := 0) (n' := 15) dX6_next_14 rfl rfl ?_
    refine w_iald (n := 0) (n' := 16) dX6_next_15 rfl rfl (by decide) (by decide) ?_
    refine w_icmp_ge (n' := 19) (tgt := 48) dX6_next_16 rfl rfl (fun h16 => ?_) (fun h16 => ?_)
    · have hin : i = n := by
        rcases Nat.lt_or_ge i n with c | c
        · exact absurd h16 (by rw [hp.1]; exact nI_ge (b := n) c (by omega))
        · omega
      refine w_aload_n (i := 0) (n' := 49) dX6_next_48 rfl rfl rfl ?_
      refine w_iload_n (i := 2) (n' := 50) dX6_next_49 rfl rfl rfl ?_
      refine v_E (ci := 6) (n' := 53) dX6_next_50 rfl lRX6_116 okX6_withDays voX6_withDays ⟨⟨Nat.le_of_ble_eq_true rfl, Nat.le_of_ble_eq_true rfl⟩, Nat.le_of_ble_eq_true rfl, Nat.le_of_ble_eq_true rfl⟩ (c6_withDays hp.1 h8 _) rfl rfl (Nat.le_of_ble_eq_true rfl) rfl (Nat.le_of_ble_eq_true rfl) rfl ?_
      exact w_iret dX6_next_53 rfl ⟨by rw [h1, hin, nxD_congr n (fun i hi => cd_at mem hi), eqB_congr (fun i hi => cd_at mem hi)], rfl⟩
    · have hlt : i < n := by
        rcases Nat.lt_or_ge i n with c | c
        · exact c
        · exact absurd (by rw [hp.1]; exact nI_le (a := n) c (by omega)) h16
      refine w_iload_n (i := 1) (n' := 20) dX6_next_19 rfl rfl rfl ?_
      refine w_iload_n (i := 3) (n' := 21) dX6_next_20 rfl rfl rfl ?_
      refine w_ishr (n' := 22) dX6_next_21 rfl ?_
      refine w_iconst (v := 1) (n' := 23) dX6_next_22 rfl rfl ?_
      refine w_iand (n' := 24) dX6_next_23 rfl ?_
      refine w_if_ne (n' := 27) (tgt := 40) dX6_next_24 rfl rfl (fun h24 => ?_) (fun h24 => ?_)
      · refine w_iload_n (i := 2) (n' := 41) dX6_next_40 rfl rfl rfl ?_
        refine w_istore_n (i := 2) (n' := 42) (ls' := [_, _, _, _]) dX6_next_41 rfl rfl (Nat.le_of_ble_eq_true rfl) rfl rfl ?_
        refine w_iinc (n' := 45) (v := nI (i + 1)) (ls' := [_, _, _, _]) dX6_next_42 rfl rfl (nI_1 i) (Nat.le_of_ble_eq_true rfl) rfl rfl ?_
        refine w_goto (tgt := 9) dX6_next_45 rfl ?_
        exact ih hlt _ (by rw [h1, nxD, if_neg h24])
      · refine w_iload_n (i := 2) (n' := 28) dX6_next_27 rfl rfl rfl ?_
        refine w_aload_n (i := 0) (n' := 29) dX6_next_28 rfl rfl rfl ?_
        refine w_get (ci := 6) (j := 11) (n' := 32) dX6_next_29 rfl fRX6_37 (Nat.le_of_ble_eq_true rfl) (Nat.le_of_ble_eq_true rfl) rfl rfl ?_
        refine w_iload_n (i := 3) (n' := 33) dX6_next_32 rfl rfl rfl ?_
        refine w_iald (n := i) (n' := 34) dX6_next_33 rfl rfl rfl (show i < 8 by omega) ?_
        refine s_E (n' := 37) dX6_next_34 rfl lRX6_73 okX6_greatest stX6_greatest ⟨⟨Nat.le_of_ble_eq_true rfl, Nat.le_of_ble_eq_true rfl⟩, Nat.le_of_ble_eq_true rfl, Nat.le_of_ble_eq_true rfl⟩ (c6_greatest _ _ _) rfl rfl (Nat.le_of_ble_eq_true rfl) ?_
        refine w_goto (tgt := 41) dX6_next_37 rfl ?_
        refine w_istore_n (i := 2) (n' := 42) (ls' := [_, _, _, _]) dX6_next_41 rfl rfl (Nat.le_of_ble_eq_true rfl) rfl rfl ?_
        refine w_iinc (n' := 45) (v := nI (i + 1)) (ls' := [_, _, _, _]) dX6_next_42 rfl rfl (nI_1 i) (Nat.le_of_ble_eq_true rfl) rfl rfl ?_
        refine w_goto (tgt := 9) dX6_next_45 rfl ?_
        exact ih hlt _ (by rw [h1, nxD, if_pos (by simpa using h24)])
  exact L 0 _ (Nat.zero_le _) rfl
def nearI (v b : Int32) : Int32 := if v ≤ b then (if 0 - b ≤ v then 0 else v + b) else v - b
def sumX (F : Nat → Nat → Int32) (L : Int32) : Nat → Int32
  | 0 => 0
  | i + 1 => sumX F L i + F i 3 * tellF (F i 0) (F i 4) * (if (L >>> (nI i &&& 31)) &&& 1 = 1 then 3 else 1)
def leanX (sum mice rain : Int32) : Int32 := if 60 ≤ rain then 0 - nearI sum (mice / 10) else nearI sum (mice / 10)
def leanXM (m : Mem) (n : Nat) (L : Int32) : Int32 := leanX (sumX (FM m) L n) (m 51 4) (m 51 5)
set_option maxHeartbeats 4000000 in
theorem c6_nearer (v b : Int32) (mem : Mem) : CnE mX6_nearer [.int v, .int b] mem (some (.int (nearI v b))) mem := by
  refine Cn.of (ls := [some (.int v), some (.int b)]) (by decide) rfl (Nat.le_of_ble_eq_true rfl) ?_
  refine w_iload_n (i := 0) (n' := 1) dX6_nearer_0 rfl rfl rfl ?_
  refine w_iload_n (i := 1) (n' := 2) dX6_nearer_1 rfl rfl rfl ?_
  refine w_icmp_le (n' := 5) (tgt := 11) dX6_nearer_2 rfl rfl (fun h2 => ?_) (fun h2 => ?_)
  · refine w_iload_n (i := 0) (n' := 12) dX6_nearer_11 rfl rfl rfl ?_
    refine w_iload_n (i := 1) (n' := 13) dX6_nearer_12 rfl rfl rfl ?_
    refine w_ineg (n' := 14) dX6_nearer_13 rfl ?_
    refine w_icmp_ge (n' := 17) (tgt := 23) dX6_nearer_14 rfl rfl (fun h14 => ?_) (fun h14 => ?_)
    · refine w_iconst (v := 0) (n' := 24) dX6_nearer_23 rfl rfl ?_
      exact w_iret dX6_nearer_24 rfl ⟨by rw [nearI, if_pos h2, if_pos h14], rfl⟩
    · refine w_iload_n (i := 0) (n' := 18) dX6_nearer_17 rfl rfl rfl ?_
      refine w_iload_n (i := 1) (n' := 19) dX6_nearer_18 rfl rfl rfl ?_
      refine w_iadd (n' := 20) dX6_nearer_19 rfl ?_
      refine w_goto (tgt := 24) dX6_nearer_20 rfl ?_
      exact w_iret dX6_nearer_24 rfl ⟨by rw [nearI, if_pos h2, if_neg h14], rfl⟩
  · refine w_iload_n (i := 0) (n' := 6) dX6_nearer_5 rfl rfl rfl ?_
    refine w_iload_n (i := 1) (n' := 7) dX6_nearer_6 rfl rfl rfl ?_
    refine w_isub (n' := 8) dX6_nearer_7 rfl ?_
    refine w_goto (tgt := 24) dX6_nearer_8 rfl ?_
    exact w_iret dX6_nearer_24 rfl ⟨by rw [nearI, if_neg h2], rfl⟩
set_option maxHeartbeats 4000000 in
theorem c6_leanBy {n : Nat} {mem : Mem} (h : mem 51 0 = nI n) (h8 : n ≤ 8) (L0 : Int32) : CnE mX6_leanBy [.ref 50, .int L0] mem (some (.int (leanXM mem n L0))) mem := by
  refine Cn.of (ls := [some (.ref 50), some (.int L0), none, none]) (by decide) rfl (Nat.le_of_ble_eq_true rfl) ?_
  refine w_iconst (v := 0) (n' := 1) dX6_leanBy_0 rfl rfl ?_
  refine w_istore_n (i := 2) (n' := 2) (ls' := [_, _, _, _]) dX6_leanBy_1 rfl rfl (Nat.le_of_ble_eq_true rfl) rfl rfl ?_
  refine w_iconst (v := 0) (n' := 3) dX6_leanBy_2 rfl rfl ?_
  refine w_istore_n (i := 3) (n' := 4) (ls' := [_, _, _, _]) dX6_leanBy_3 rfl rfl (Nat.le_of_ble_eq_true rfl) rfl rfl ?_
  have L : ∀ (i : Nat) (s : Int32), i ≤ n → s = sumX (FM mem) L0 i → Wm mX6_leanBy (zM mX6_leanBy (fun r' m' => r' = (some (.int (leanXM mem n L0))) ∧ m' = mem)) 4 [some (.ref 50), some (.int L0), some (.int s), some (.int (nI i))] [] mem := by
    refine for_ind n ?_
    intro i s hi h1 ih
    refine w_iload_n (i := 3) (n' := 5) dX6_leanBy_4 rfl rfl rfl ?_
    refine w_aload_n (i := 0) (n' := 6) dX6_leanBy_5 rfl rfl rfl ?_
    refine w_get (ci := 6) (j := 0) (n' := 9) dX6_leanBy_6 rfl fRX6_7 (Nat.le_of_ble_eq_true rfl) (Nat.le_of_ble_eq_true rfl) rfl rfl ?_
    refine w_iconst (v := 0) (n' := 10) dX6_leanBy_9 rfl rfl ?_
    refine w_iald (n := 0) (n' := 11) dX6_leanBy_10 rfl rfl (by decide) (by decide) ?_
    refine w_icmp_ge (n' := 14) (tgt := 50) dX6_leanBy_11 rfl rfl (fun h11 => ?_) (fun h11 => ?_)
    · have hin : i = n := by
        rcases Nat.lt_or_ge i n with c | c
        · exact absurd h11 (by rw [h]; exact nI_ge (b := n) c (by omega))
        · omega
      rw [hin] at h1
      refine w_iload_n (i := 2) (n' := 51) dX6_leanBy_50 rfl rfl rfl ?_
      refine w_aload_n (i := 0) (n' := 52) dX6_leanBy_51 rfl rfl rfl ?_
      refine w_get (ci := 6) (j := 0) (n' := 55) dX6_leanBy_52 rfl fRX6_7 (Nat.le_of_ble_eq_true rfl) (Nat.le_of_ble_eq_true rfl) rfl rfl ?_
      refine w_iconst (v := 4) (n' := 56) dX6_leanBy_55 rfl rfl ?_
      refine w_iald (n := 4) (n' := 57) dX6_leanBy_56 rfl rfl (by decide) (by decide) ?_
      refine w_bipush (v := 10) (n' := 59) dX6_leanBy_57 rfl (by decide) ?_
      refine w_idiv (n' := 60) dX6_leanBy_59 rfl (by decide) ?_
      refine s_E (n' := 63) dX6_leanBy_60 rfl lRX6_125 okX6_nearer stX6_nearer ⟨⟨Nat.le_of_ble_eq_true rfl, Nat.le_of_ble_eq_true rfl⟩, Nat.le_of_ble_eq_true rfl, Nat.le_of_ble_eq_true rfl⟩ (c6_nearer _ _ _) rfl rfl (Nat.le_of_ble_eq_true rfl) ?_
      refine w_istore_n (i := 3) (n' := 64) (ls' := [_, _, _, _]) dX6_leanBy_63 rfl rfl (Nat.le_of_ble_eq_true rfl) rfl rfl ?_
      refine w_aload_n (i := 0) (n' := 65) dX6_leanBy_64 rfl rfl rfl ?_
      refine w_get (ci := 6) (j := 0) (n' := 68) dX6_leanBy_65 rfl fRX6_7 (Nat.le_of_ble_eq_true rfl) (Nat.le_of_ble_eq_true rfl) rfl rfl ?_
      refine w_iconst (v := 5) (n' := 69) dX6_leanBy_68 rfl rfl ?_
      refine w_iald (n := 5) (n' := 70) dX6_leanBy_69 rfl rfl (by decide) (by decide) ?_
      refine w_bipush (v := 60) (n' := 72) dX6_leanBy_70 rfl (by decide) ?_
      refine w_icmp_ge (n' := 75) (tgt := 79) dX6_leanBy_72 rfl rfl (fun h72 => ?_) (fun h72 => ?_)
      · refine w_iload_n (i := 3) (n' := 80) dX6_leanBy_79 rfl rfl rfl ?_
        refine w_ineg (n' := 81) dX6_leanBy_80 rfl ?_
        exact w_iret dX6_leanBy_81 rfl ⟨by rw [leanXM, leanX, if_pos h72, h1], rfl⟩
      · refine w_iload_n (i := 3) (n' := 76) dX6_leanBy_75 rfl rfl rfl ?_
        refine w_goto (tgt := 81) dX6_leanBy_76 rfl ?_
        exact w_iret dX6_leanBy_81 rfl ⟨by rw [leanXM, leanX, if_neg h72, h1], rfl⟩
    · have hlt : i < n := by
        rcases Nat.lt_or_ge i n with c | c
        · exact c
        · exact absurd (by rw [h]; exact nI_le (a := n) c (by omega)) h11
      refine w_iload_n (i := 2) (n' := 15) dX6_leanBy_14 rfl rfl rfl ?_
      refine w_aload_n (i := 0) (n' := 16) dX6_leanBy_15 rfl rfl rfl ?_
      refine w_iload_n (i := 3) (n' := 17) dX6_leanBy_16 rfl rfl rfl ?_
      refine w_iconst (v := 3) (n' := 18) dX6_leanBy_17 rfl rfl ?_
      refine v_E (ci := 6) (n' := 21) dX6_leanBy_18 rfl lRX6_70 okX6_its voX6_its ⟨⟨Nat.le_of_ble_eq_true rfl, Nat.le_of_ble_eq_true rfl⟩, Nat.le_of_ble_eq_true rfl, Nat.le_of_ble_eq_true rfl⟩ (c6_its (i := i) (j := 3) _ _ rfl (by decide) (by omega) _) rfl rfl (Nat.le_of_ble_eq_true rfl) rfl (Nat.le_of_ble_eq_true rfl) rfl ?_
      refine w_aload_n (i := 0) (n' := 22) dX6_leanBy_21 rfl rfl rfl ?_
      refine w_iload_n (i := 3) (n' := 23) dX6_leanBy_22 rfl rfl rfl ?_
      refine v_E (ci := 6) (n' := 26) dX6_leanBy_23 rfl lRX6_91 okX6_tells voX6_tells ⟨⟨Nat.le_of_ble_eq_true rfl, Nat.le_of_ble_eq_true rfl⟩, Nat.le_of_ble_eq_true rfl, Nat.le_of_ble_eq_true rfl⟩ (c6_tells (by omega) _) rfl rfl (Nat.le_of_ble_eq_true rfl) rfl (Nat.le_of_ble_eq_true rfl) rfl ?_
      refine w_imul (n' := 27) dX6_leanBy_26 rfl ?_
      refine w_iload_n (i := 1) (n' := 28) dX6_leanBy_27 rfl rfl rfl ?_
      refine w_iload_n (i := 3) (n' := 29) dX6_leanBy_28 rfl rfl rfl ?_
      refine w_ishr (n' := 30) dX6_leanBy_29 rfl ?_
      refine w_iconst (v := 1) (n' := 31) dX6_leanBy_30 rfl rfl ?_
      refine w_iand (n' := 32) dX6_leanBy_31 rfl ?_
      refine w_iconst (v := 1) (n' := 33) dX6_leanBy_32 rfl rfl ?_
      refine w_icmp_ne (n' := 36) (tgt := 40) dX6_leanBy_33 rfl rfl (fun h33 => ?_) (fun h33 => ?_)
      · refine w_iconst (v := 1) (n' := 41) dX6_leanBy_40 rfl rfl ?_
        refine w_imul (n' := 42) dX6_leanBy_41 rfl ?_
        refine w_iadd (n' := 43) dX6_leanBy_42 rfl ?_
        refine w_istore_n (i := 2) (n' := 44) (ls' := [_, _, _, _]) dX6_leanBy_43 rfl rfl (Nat.le_of_ble_eq_true rfl) rfl rfl ?_
        refine w_iinc (n' := 47) (v := nI (i + 1)) (ls' := [_, _, _, _]) dX6_leanBy_44 rfl rfl (nI_1 i) (Nat.le_of_ble_eq_true rfl) rfl rfl ?_
        refine w_goto (tgt := 4) dX6_leanBy_47 rfl ?_
        exact ih hlt _ (by rw [h1, sumX, if_neg h33]; rfl)
      · refine w_iconst (v := 3) (n' := 37) dX6_leanBy_36 rfl rfl ?_
        refine w_goto (tgt := 41) dX6_leanBy_37 rfl ?_
        refine w_imul (n' := 42) dX6_leanBy_41 rfl ?_
        refine w_iadd (n' := 43) dX6_leanBy_42 rfl ?_
        refine w_istore_n (i := 2) (n' := 44) (ls' := [_, _, _, _]) dX6_leanBy_43 rfl rfl (Nat.le_of_ble_eq_true rfl) rfl rfl ?_
        refine w_iinc (n' := 47) (v := nI (i + 1)) (ls' := [_, _, _, _]) dX6_leanBy_44 rfl rfl (nI_1 i) (Nat.le_of_ble_eq_true rfl) rfl rfl ?_
        refine w_goto (tgt := 4) dX6_leanBy_47 rfl ?_
        exact ih hlt _ (by rw [h1, sumX, if_pos (by simpa using h33)]; rfl)
  exact L 0 0 (Nat.zero_le _) rfl
set_option maxHeartbeats 4000000 in
theorem c6_leanNow {n : Nat} {mem : Mem} (h : MO mem n) : CnE mX6_leanNow [.ref 50] mem (some (.int (leanXM mem n (lastS (DM mem) n)))) (cdM mem n) := by
  refine Cn.of (ls := [some (.ref 50)]) (by decide) rfl (Nat.le_of_ble_eq_true rfl) ?_
  refine w_aload_n (i := 0) (n' := 1) dX6_leanNow_0 rfl rfl rfl ?_
  refine w_aload_n (i := 0) (n' := 2) dX6_leanNow_1 rfl rfl rfl ?_
  refine v_E (ci := 6) (n' := 5) dX6_leanNow_2 rfl lRX6_119 okX6_lasts voX6_lasts ⟨⟨Nat.le_of_ble_eq_true rfl, Nat.le_of_ble_eq_true rfl⟩, Nat.le_of_ble_eq_true rfl, Nat.le_of_ble_eq_true rfl⟩ (c6_lasts h) rfl rfl (Nat.le_of_ble_eq_true rfl) rfl (Nat.le_of_ble_eq_true rfl) rfl ?_
  refine v_E (ci := 6) (n' := 8) dX6_leanNow_5 rfl lRX6_128 okX6_leanBy voX6_leanBy ⟨⟨Nat.le_of_ble_eq_true rfl, Nat.le_of_ble_eq_true rfl⟩, Nat.le_of_ble_eq_true rfl, Nat.le_of_ble_eq_true rfl⟩ (c6_leanBy (cd_MO h).1 h.2.1 _) rfl rfl (Nat.le_of_ble_eq_true rfl) rfl (Nat.le_of_ble_eq_true rfl) rfl ?_
  exact w_iret dX6_leanNow_8 rfl ⟨by unfold leanXM FM; rw [cd_o _ _ (by decide)], rfl⟩
set_option maxHeartbeats 4000000 in
theorem c6_lean {n : Nat} {mem : Mem} (h : MO mem n) : CnE mX6_lean [.ref 50] mem (some (.int (leanXM mem n (lastS (DM mem) n)))) (cdM mem n) := by
  refine Cn.of (ls := [some (.ref 50)]) (by decide) rfl (Nat.le_of_ble_eq_true rfl) ?_
  refine w_aload_n (i := 0) (n' := 1) dX6_lean_0 rfl rfl rfl ?_
  refine v_E (ci := 6) (n' := 4) dX6_lean_1 rfl lRX6_131 okX6_leanNow voX6_leanNow ⟨⟨Nat.le_of_ble_eq_true rfl, Nat.le_of_ble_eq_true rfl⟩, Nat.le_of_ble_eq_true rfl, Nat.le_of_ble_eq_true rfl⟩ (c6_leanNow h) rfl rfl (Nat.le_of_ble_eq_true rfl) rfl (Nat.le_of_ble_eq_true rfl) rfl ?_
  exact w_iret dX6_lean_4 rfl ⟨rfl, rfl⟩
set_option maxHeartbeats 4000000 in
theorem c6_answerTo {n : Nat} {mem : Mem} (h : MO mem n) (q : Int32) : CnE mX6_answerTo [.ref 50, .int q] mem (some (.int (if leanXM mem n (lastS (DM mem) n) < q then 0 else 1))) (cdM mem n) := by
  refine Cn.of (ls := [some (.ref 50), some (.int q)]) (by decide) rfl (Nat.le_of_ble_eq_true rfl) ?_
  refine w_aload_n (i := 0) (n' := 1) dX6_answerTo_0 rfl rfl rfl ?_
  refine v_E (ci := 6) (n' := 4) dX6_answerTo_1 rfl lRX6_131 okX6_leanNow voX6_leanNow ⟨⟨Nat.le_of_ble_eq_true rfl, Nat.le_of_ble_eq_true rfl⟩, Nat.le_of_ble_eq_true rfl, Nat.le_of_ble_eq_true rfl⟩ (c6_leanNow h) rfl rfl (Nat.le_of_ble_eq_true rfl) rfl (Nat.le_of_ble_eq_true rfl) rfl ?_
  refine w_iload_n (i := 1) (n' := 5) dX6_answerTo_4 rfl rfl rfl ?_
  refine w_icmp_lt (n' := 8) (tgt := 12) dX6_answerTo_5 rfl rfl (fun h5 => ?_) (fun h5 => ?_)
  · refine w_iconst (v := 0) (n' := 13) dX6_answerTo_12 rfl rfl ?_
    exact w_iret dX6_answerTo_13 rfl ⟨by simp [*], rfl⟩
  · refine w_iconst (v := 1) (n' := 9) dX6_answerTo_8 rfl rfl ?_
    refine w_goto (tgt := 13) dX6_answerTo_9 rfl ?_
    exact w_iret dX6_answerTo_13 rfl ⟨by simp [*], rfl⟩
set_option maxHeartbeats 4000000 in
theorem c6_answer {n : Nat} {mem : Mem} (h : MO mem n) (q : Int32) : CnI mX6_answer [.ref 50, .int q] mem (fun x m' => (inR q (-99) 99 = 0 ∧ x = -1000001 ∧ m' = fndM mem 0) ∨ (¬ inR q (-99) 99 = 0 ∧ x = (if leanXM mem n (lastS (DM mem) n) < q then 0 else 1) ∧ m' = cdM mem n)) := by
  refine Cn.of (ls := [some (.ref 50), some (.int q)]) (by decide) rfl (Nat.le_of_ble_eq_true rfl) ?_
  refine w_iload_n (i := 1) (n' := 1) dX6_answer_0 rfl rfl rfl ?_
  refine s_E (n' := 4) dX6_answer_1 rfl lRX6_136 okX6_isAsked stX6_isAsked ⟨⟨Nat.le_of_ble_eq_true rfl, Nat.le_of_ble_eq_true rfl⟩, Nat.le_of_ble_eq_true rfl, Nat.le_of_ble_eq_true rfl⟩ (c6_isAsked _ _) rfl rfl (Nat.le_of_ble_eq_true rfl) ?_
  refine w_if_eq (n' := 7) (tgt := 15) dX6_answer_4 rfl rfl (fun h4 => ?_) (fun h4 => ?_)
  · refine w_aload_n (i := 0) (n' := 16) dX6_answer_15 rfl rfl rfl ?_
    refine w_ldc (v := -1000001) (n' := 18) dX6_answer_16 rfl kRX6_43 ?_
    refine v_E (ci := 6) (n' := 21) dX6_answer_18 rfl lRX6_45 okX6_finds voX6_finds ⟨⟨Nat.le_of_ble_eq_true rfl, Nat.le_of_ble_eq_true rfl⟩, Nat.le_of_ble_eq_true rfl, Nat.le_of_ble_eq_true rfl⟩ (c6_finds 0 _ (by decide) (by decide) _) rfl rfl (Nat.le_of_ble_eq_true rfl) rfl (Nat.le_of_ble_eq_true rfl) rfl ?_
    exact w_iret dX6_answer_21 rfl ⟨_, rfl, Or.inl ⟨h4, rfl, rfl⟩⟩
  · refine w_aload_n (i := 0) (n' := 8) dX6_answer_7 rfl rfl rfl ?_
    refine w_iload_n (i := 1) (n' := 9) dX6_answer_8 rfl rfl rfl ?_
    refine v_E (ci := 6) (n' := 12) dX6_answer_9 rfl lRX6_139 okX6_answerTo voX6_answerTo ⟨⟨Nat.le_of_ble_eq_true rfl, Nat.le_of_ble_eq_true rfl⟩, Nat.le_of_ble_eq_true rfl, Nat.le_of_ble_eq_true rfl⟩ (c6_answerTo h _) rfl rfl (Nat.le_of_ble_eq_true rfl) rfl (Nat.le_of_ble_eq_true rfl) rfl ?_
    refine w_goto (tgt := 21) dX6_answer_12 rfl ?_
    exact w_iret dX6_answer_21 rfl ⟨_, rfl, Or.inr ⟨h4, rfl, rfl⟩⟩
